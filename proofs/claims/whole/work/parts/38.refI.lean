/-! ===== the reference: who is a member, what a width gains, what is kept aside ===== -/
theorem up_n {I : MM} {i k a b : Nat} {v : Int} (h : ¬ (a = i ∧ b = k)) : up I i k v a b = I a b := if_neg h
def lb1 (x : Nat) : Nat := (bcA (x : Int) ((x : Int) - 1)).toNat
theorem lb_all : ∀ x : Nat, x < 512 → 0 < x → Int32.ofInt (x : Int) &&& Int32.ofInt ((x : Int) - 1) = Int32.ofInt ((lb1 x : Nat) : Int) ∧ lb1 x < x ∧ (onL x 9).length = (onL (lb1 x) 9).length + 1 := by decide +kernel
theorem on0 : (onL 0 9).length = 0 := by decide
theorem dg_all : ∀ q : Nat, q < 4 → ∀ j : Nat, j < q → ∀ row : Nat, row < 5 ^ q → ∀ w : Nat, w < 5 → ∀ i : Nat, i < q → dg5 q (r25 q row j w) i = if i = j then (w : Int) else dg5 q row i := by decide +kernel
theorem dl_all : ∀ q : Nat, q < 4 → ∀ j : Nat, j < q → ∀ row : Nat, row < 5 ^ q → dg5 q row (q - 1 - j) = ((row / 5 ^ j % 5 : Nat) : Int) := by decide +kernel
def tlD (r : Nat) : Nat → Int
  | 0 => 0
  | j + 1 => tlD r j + (10 : Int) ^ j * ((r / 5 ^ j % 5 : Nat) : Int)
theorem tl_all : ∀ q : Nat, q < 4 → ∀ r : Nat, r < 5 ^ q → tlD r q = asD r := by decide +kernel
theorem onL_inc {s : Nat} : ∀ k i j, i < j → j < (onL s k).length → (onL s k).getD i 0 < (onL s k).getD j 0
  | 0, _, _, _, h => absurd h (by simp [onL])
  | k + 1, i, j, hij, h => by
    have ih := onL_inc (s := s) k i j hij
    have hs : onL s (k + 1) = onL s k ++ (if s / 2 ^ k % 2 = 1 then [k] else []) := rfl
    by_cases z : s / 2 ^ k % 2 = 1
    · rw [if_pos z] at hs
      rw [hs] at h ⊢
      simp only [List.length_append, List.length_cons, List.length_nil] at h
      have e1 : (onL s k ++ [k]).getD i 0 = (onL s k).getD i 0 := by
        simp only [List.getD_eq_getElem?_getD]
        rw [List.getElem?_append_left (by omega)]
      rw [e1]
      by_cases ej : j = (onL s k).length
      · have e2 : (onL s k ++ [k]).getD j 0 = k := by subst ej; simp
        rw [e2]
        exact onL_g (by omega)
      · have e2 : (onL s k ++ [k]).getD j 0 = (onL s k).getD j 0 := by
          simp only [List.getD_eq_getElem?_getD]
          rw [List.getElem?_append_left (by omega)]
        rw [e2]
        exact ih (by omega)
    · rw [if_neg z, List.append_nil] at hs
      rw [hs] at h ⊢
      exact ih h
def inj1 (c : Nat → Nat) (q : Nat) : Prop := ∀ i, i < q → ∀ j, j < q → c i = c j → i = j
theorem onL_inj {s k : Nat} : inj1 (fun j => (onL s k).getD j 0) (onL s k).length := by
  intro i hi j hj h
  rcases (by omega : i < j ∨ i = j ∨ j < i) with z | z | z
  · have := onL_inc (s := s) k i j z hj
    simp only at h
    omega
  · exact z
  · have := onL_inc (s := s) k j i z hi
    simp only at h
    omega
theorem wfc_at {F : FT} {c : Nat → Nat} {d : Nat → Int} : ∀ q, inj1 c q → ∀ i, i < q → wfc F c d q (c i) 1 = d i
  | 0, _, i, h => absurd h (Nat.not_lt_zero i)
  | q + 1, hi, i, h => by
    show setF (wfc F c d q) (c q) 1 (d q) (c i) 1 = d i
    unfold setF
    by_cases z : c i = c q
    · rw [if_pos ⟨z, rfl⟩, hi i h q (by omega) z]
    · rw [if_neg (fun y => z y.1)]
      exact wfc_at q (fun a ha b hb => hi a (by omega) b (by omega)) i (by
        rcases (by omega : i < q ∨ i = q) with y | rfl
        · exact y
        · exact absurd rfl z)
theorem wfc_is {F X : FT} {c : Nat → Nat} {d : Nat → Int} {q : Nat} (hi : inj1 c q) (h1 : ∀ i, i < q → X (c i) 1 = d i) (h2 : ∀ g x, (x ≠ 1 ∨ ∀ i, i < q → c i ≠ g) → X g x = F g x) : X = wfc F c d q := by
  funext g x
  by_cases z : x = 1 ∧ ∃ i, i < q ∧ c i = g
  · obtain ⟨rfl, i, hiq, rfl⟩ := z
    rw [wfc_at q hi i hiq, h1 i hiq]
  · rw [wfc_out q z]
    refine h2 g x ?_
    by_cases y : x = 1
    · right
      intro i hiq hc
      exact z ⟨y, i, hiq, hc⟩
    · exact Or.inl y
theorem wfc_put {F : FT} {c : Nat → Nat} {q row k w : Nat} (hi : inj1 c q) (hq : q < 4) (hr : row < 5 ^ q) (hk : k < q) (hw : w < 5) : setF (wfc F c (dg5 q row) q) (c k) 1 (w : Int) = wfc F c (dg5 q (r25 q row k w)) q := by
  refine wfc_is hi (fun i hiq => ?_) (fun g x h => ?_)
  · rw [dg_all q hq k hk row hr w hw i hiq]
    unfold setF
    by_cases z : i = k
    · rw [if_pos z, if_pos ⟨by rw [z], rfl⟩]
    · rw [if_neg z, if_neg (fun y => z (hi i hiq k hk y.1)), wfc_at q hi i hiq]
  · unfold setF
    rw [if_neg, wfc_out q]
    · rintro ⟨rfl, i, hiq, hc⟩
      rcases h with h | h
      · exact h rfl
      · exact h i hiq hc
    · rintro ⟨rfl, rfl⟩
      rcases h with h | h
      · exact h rfl
      · exact h k hk rfl
theorem setF_same {F : FT} {f k : Nat} : setF F f k (F f k) = F := by
  funext g j; unfold setF
  by_cases h : g = f ∧ j = k
  · rw [if_pos h, h.1, h.2]
  · rw [if_neg h]
/-- what asking for a gain leaves -/
def kpG (I J : MM) : Prop := kpM I J ∧ (∀ a b, 59 ≤ a → J a b = I a b) ∧ ∀ b, b ≠ 16 → J 50 b = I 50 b
theorem kpG.rf {I : MM} : kpG I I := ⟨kpM.rf, fun _ _ _ => rfl, fun _ _ => rfl⟩
theorem kpG.tr {I J J2 : MM} (h : kpG I J) (h2 : kpG J J2) : kpG I J2 := ⟨h.1.tr h2.1, fun a b q => (h2.2.1 a b q).trans (h.2.1 a b q), fun b q => (h2.2.2 b q).trans (h.2.2 b q)⟩
def kepJ (I : MM) : MM := fun a k => if a = 50 ∧ k = 18 then I 50 5 else if a = 59 ∧ k < 63 then I 51 k else I a k
def bakJ (I : MM) : MM := fun a k => if a = 50 ∧ k = 5 then I 50 18 else if a = 51 ∧ k < 63 then I 59 k else I a k
section FR
variable {G : GT} {K : List Nat} {N : NN} {I : MM} {n : Nat}
theorem sp_ones (s : Nat) (hs : s < 512) {z : Int} (hz : z = (s : Int)) : SpI G mX5_ones .int 0 0 0 0 [vi z] K N I (qI K N I ((onL s 9).length : Int)) := by
  refine SpI.of (own := RX5) (cc := cX5_ones) (L := [some (vi z), none, none]) (by decide) rfl rfl (Nat.le_of_ble_eq_true rfl) rfl (fun Fx hnm hret => ?_)
  have lp : ∀ (m : Nat) (x : Nat) (c y : Int), x < 512 → x < m → y = (x : Int) → c + ((onL x 9).length : Int) = ((onL s 9).length : Int) → XX G RX5 cX5_ones (RmW 0 0 0 0) Fx 4 [some (vi z), some (vi c), some (vi y)] [] K N I 0 0 := by
    intro m
    induction m with
    | zero => intros; exfalso; omega
    | succ m ih =>
      intro x c y h0 h1 h2 h3
      refine x_iload_n dX5_ones_4 rfl ?_
      refine x_if_eq 20 dX5_ones_5 (by decide) (by unfold inr; omega) (fun h_5 => ?_) (fun h_5 => ?_)
      · refine x_iload_n dX5_ones_20 rfl ?_
        refine hret _ _ _ _ _ _ dX5_ones_21 rfl ?_
        obtain rfl : x = 0 := by omega
        rw [on0] at h3
        exact ⟨rfl, rfl, rfl, by omega⟩
      · refine x_inc1 dX5_ones_8 ?_
        obtain ⟨e1, e2, e3⟩ := lb_all x h0 (by omega)
        refine x_iload_n dX5_ones_11 rfl ?_
        refine x_iload_n dX5_ones_12 rfl ?_
        refine x_iconst dX5_ones_13 ?_
        refine x_isub dX5_ones_14 ?_
        refine x_iand ((lb1 x : Nat) : Int) dX5_ones_15 (by rw [h2]; exact e1) ?_
        refine x_ist2 dX5_ones_16 ?_
        refine x_goto 4 dX5_ones_17 (by decide) ?_
        refine ih (lb1 x) _ _ (by omega) (by omega) rfl ?_
        omega
  refine x_iconst dX5_ones_0 ?_
  refine x_ist1 dX5_ones_1 ?_
  refine x_iload_n dX5_ones_2 rfl ?_
  refine x_ist2 dX5_ones_3 ?_
  exact lp 512 s _ _ hs hs hz (by omega)
theorem sp_layMembers (hN : NS N) (hn : I 50 0 = (n : Int)) (hn9 : n ≤ 9) {s : Nat} (hs : s < 512) {z : Int} (hz : z = (s : Int)) : SpV G mX5_layMembers 0 0 0 0 [.ref 50, vi z] K N I (pV K N (fun J => J 50 27 = ((onL s n).length : Int) ∧ (∀ j, j < (onL s n).length → J 64 j = (((onL s n).getD j 0 : Nat) : Int)) ∧ ∀ a b, a ≠ 64 → ¬ (a = 50 ∧ b = 27) → J a b = I a b)) := by
  refine SpV.of (own := RX5) (cc := cX5_layMembers) (L := [some (.ref 50), some (vi z), none]) (by decide) rfl rfl (Nat.le_of_ble_eq_true rfl) rfl (fun Fx hnm hret => ?_)
  have lp : ∀ (m : Nat) (k : Nat) (x : Int) (J : MM), k ≤ n → n < k + m → x = (k : Int) → J 50 27 = ((onL s k).length : Int) → (∀ j, j < (onL s k).length → J 64 j = (((onL s k).getD j 0 : Nat) : Int)) → (∀ a b, a ≠ 64 → ¬ (a = 50 ∧ b = 27) → J a b = I a b) → XX G RX5 cX5_layMembers (RmW 0 0 0 0) Fx 7 [some (.ref 50), some (vi z), some (vi x)] [] K N J 0 0 := by
    intro m
    induction m with
    | zero => intros; exfalso; omega
    | succ m ih =>
      intro k x J h0 h1 h2 h4 h5 h6
      have hJ0 : J 50 0 = (n : Int) := (h6 50 0 (by omega) (by omega)).trans hn
      have hle : (onL s k).length ≤ k := onL_len
      have hst : onL s (k + 1) = onL s k ++ (if s / 2 ^ k % 2 = 1 then [k] else []) := rfl
      refine x_iload_n dX5_layMembers_7 rfl ?_
      refine x_aload_n dX5_layMembers_8 rfl ?_
      refine x_getI dX5_layMembers_9 gf_RX5_73 rfl rfl ?_
      rw [hJ0]
      refine x_icmp_ge 50 dX5_layMembers_12 (by decide) (by unfold inr; omega) (by unfold inr; omega) (fun h_12 => ?_) (fun h_12 => ?_)
      · refine hret _ _ _ _ _ dX5_layMembers_50 ?_
        obtain rfl : k = n := by omega
        exact ⟨rfl, rfl, h4, h5, h6⟩
      · refine x_iload_n dX5_layMembers_15 rfl ?_
        refine x_iload_n dX5_layMembers_16 rfl ?_
        refine x_ishr ((s / 2 ^ k : Nat) : Int) dX5_layMembers_17 (by rw [hz, h2]; exact shr_all s hs k (by omega)) ?_
        refine x_iconst dX5_layMembers_18 ?_
        refine x_iand ((s / 2 ^ k % 2 : Nat) : Int) dX5_layMembers_19 (and_all _ (Nat.lt_of_le_of_lt (Nat.div_le_self _ _) hs)) ?_
        refine x_iconst dX5_layMembers_20 ?_
        refine x_icmp_ne 44 dX5_layMembers_21 (by decide) (by unfold inr; omega) (by unfold inr; omega) (fun h_21 => ?_) (fun h_21 => ?_)
        · refine x_inc2 dX5_layMembers_44 ?_
          refine x_goto 7 dX5_layMembers_47 (by decide) ?_
          first
          | (have e : onL s (k + 1) = onL s k := by rw [hst, if_neg (by omega), List.append_nil]
             refine ih (k + 1) _ _ (by omega) (by omega) (by omega) ?_ ?_ h6
             · rw [e]; exact h4
             · rw [e]; exact h5)
          | (have e : onL s (k + 1) = onL s k ++ [k] := by rw [hst, if_pos (by omega)]
             refine ih (k + 1) _ _ (by omega) (by omega) (by omega) ?_ ?_ (fun a b q1 q2 => by rw [up_n (by omega), up_n1 q1]; exact h6 a b q1 q2)
             · rw [up_s, e, List.length_append]; simp
             · intro j hj
               rw [e] at hj ⊢
               simp only [List.length_append, List.length_cons, List.length_nil] at hj
               rw [up_n1 (by omega)]
               by_cases ej : j = (onL s k).length
               · subst ej
                 rw [up_s, h2]; simp
               · rw [up_n2 ej, h5 j (by omega)]
                 simp only [List.getD_eq_getElem?_getD]
                 rw [List.getElem?_append_left (by omega)])
        · refine x_aload_n dX5_layMembers_24 rfl ?_
          refine x_getR (j := 64) dX5_layMembers_25 gf_RX5_49 rfl rfl (hN _ _ (by decide)) ?_
          refine x_aload_n dX5_layMembers_28 rfl ?_
          refine x_getI dX5_layMembers_29 gf_RX5_207 rfl rfl ?_
          rw [h4]
          refine x_iload_n dX5_layMembers_32 rfl ?_
          refine x_iast ((onL s k).length) dX5_layMembers_33 rfl (by omega) (show _ < 9 by omega) ?_
          refine x_aload_n dX5_layMembers_34 rfl ?_
          refine x_dupR dX5_layMembers_35 ?_
          refine x_getI dX5_layMembers_36 gf_RX5_207 rfl rfl ?_
          rw [up_n1 (by omega), h4]
          refine x_iconst dX5_layMembers_39 ?_
          refine x_iadd dX5_layMembers_40 ?_
          refine x_putI dX5_layMembers_41 pf_RX5_207 rfl rfl ?_
          refine x_inc2 dX5_layMembers_44 ?_
          refine x_goto 7 dX5_layMembers_47 (by decide) ?_
          first
          | (have e : onL s (k + 1) = onL s k := by rw [hst, if_neg (by omega), List.append_nil]
             refine ih (k + 1) _ _ (by omega) (by omega) (by omega) ?_ ?_ h6
             · rw [e]; exact h4
             · rw [e]; exact h5)
          | (have e : onL s (k + 1) = onL s k ++ [k] := by rw [hst, if_pos (by omega)]
             refine ih (k + 1) _ _ (by omega) (by omega) (by omega) ?_ ?_ (fun a b q1 q2 => by rw [up_n (by omega), up_n1 q1]; exact h6 a b q1 q2)
             · rw [up_s, e, List.length_append]; simp
             · intro j hj
               rw [e] at hj ⊢
               simp only [List.length_append, List.length_cons, List.length_nil] at hj
               rw [up_n1 (by omega)]
               by_cases ej : j = (onL s k).length
               · subst ej
                 rw [up_s, h2]; simp
               · rw [up_n2 ej, h5 j (by omega)]
                 simp only [List.getD_eq_getElem?_getD]
                 rw [List.getElem?_append_left (by omega)])
  refine x_aload_n dX5_layMembers_0 rfl ?_
  refine x_iconst dX5_layMembers_1 ?_
  refine x_putI dX5_layMembers_2 pf_RX5_207 rfl rfl ?_
  refine x_iconst dX5_layMembers_5 ?_
  refine x_ist2 dX5_layMembers_6 ?_
  exact lp (n + 1) 0 _ _ (by omega) (by omega) rfl up_s (fun j hj => absurd hj (Nat.not_lt_zero j)) (fun a b q1 q2 => up_n q2)
theorem sp_gainOf (hN : NS N) (hB : RM I n) (f : Nat) (hfn : f < n) {zf v : Int} (hf : zf = (f : Int)) (hv : 0 ≤ v ∧ v ≤ 9) : SpI G mX5_gainOf .int 3 69 0 0 [.ref 50, vi zf, vi v] K N I (pI K N (fun z J => (z = 4 * tok (setF (fm I) f 1 v) 0 (l0M I 0) f - 3 * v ∧ -100 ≤ z ∧ z ≤ 100) ∧ kpG I J)) := by
  refine SpI.of (own := RX5) (cc := cX5_gainOf) (L := [some (.ref 50), some (vi zf), some (vi v), none]) (by decide) rfl rfl (Nat.le_of_ble_eq_true rfl) rfl (fun Fx hnm hret => ?_)
  have hn9 := hB.2.2.1
  have hX : kpX 51 (9 * 1 + f) I (up I 51 (9 * 1 + f) v) := (kpM.rf.X).hole
  have hB2 := hX.RM hB (by omega) up_s (by unfold okF; omega)
  have hF2 := hX.fm (by omega) up_s
  have hT := hB2.tokb (kn := 0) hfn
  rw [hF2, hX.l0] at hT
  refine x_aload_n dX5_gainOf_0 rfl ?_
  refine x_getR (j := 51) dX5_gainOf_1 gf_RX5_7 rfl rfl (hN _ _ (by decide)) ?_
  refine x_iconst dX5_gainOf_4 ?_
  refine x_iload_n dX5_gainOf_5 rfl ?_
  refine xf_SI2 dX5_gainOf_6 ml_RX5_82 vw_X5_at st_X5_at (sp_at) ⟨Nat.le_of_ble_eq_true rfl, Nat.le_of_ble_eq_true rfl, Nat.le_of_ble_eq_true rfl, Nat.le_of_ble_eq_true rfl, Nat.le_of_ble_eq_true rfl⟩ ?_
  refine x_iald (9 * 1 + f) dX5_gainOf_9 rfl (by omega) (show _ < 63 by omega) ?_
  refine x_ist3 dX5_gainOf_10 ?_
  refine x_aload_n dX5_gainOf_11 rfl ?_
  refine x_getR (j := 51) dX5_gainOf_12 gf_RX5_7 rfl rfl (hN _ _ (by decide)) ?_
  refine x_iconst dX5_gainOf_15 ?_
  refine x_iload_n dX5_gainOf_16 rfl ?_
  refine xf_SI2 dX5_gainOf_17 ml_RX5_82 vw_X5_at st_X5_at (sp_at) ⟨Nat.le_of_ble_eq_true rfl, Nat.le_of_ble_eq_true rfl, Nat.le_of_ble_eq_true rfl, Nat.le_of_ble_eq_true rfl, Nat.le_of_ble_eq_true rfl⟩ ?_
  refine x_iload_n dX5_gainOf_20 rfl ?_
  refine x_iast (9 * 1 + f) dX5_gainOf_21 rfl (by omega) (show _ < 63 by omega) ?_
  refine x_aload_n dX5_gainOf_22 rfl ?_
  refine x_iconst dX5_gainOf_23 ?_
  refine xf_VV1 dX5_gainOf_24 ml_RX5_131 vw_X5_flow vv_X5_flow rfl (sp_mflow hN hB2 (by unfold inr; omega)) ⟨Nat.le_of_ble_eq_true rfl, Nat.le_of_ble_eq_true rfl, Nat.le_of_ble_eq_true rfl, Nat.le_of_ble_eq_true rfl, Nat.le_of_ble_eq_true rfl⟩ ?_
  refine x_aload_n dX5_gainOf_27 rfl ?_
  refine x_getR (j := 51) dX5_gainOf_28 gf_RX5_7 rfl rfl (hN _ _ (by decide)) ?_
  refine x_iconst dX5_gainOf_31 ?_
  refine x_iload_n dX5_gainOf_32 rfl ?_
  refine xf_SI2 dX5_gainOf_33 ml_RX5_82 vw_X5_at st_X5_at (sp_at) ⟨Nat.le_of_ble_eq_true rfl, Nat.le_of_ble_eq_true rfl, Nat.le_of_ble_eq_true rfl, Nat.le_of_ble_eq_true rfl, Nat.le_of_ble_eq_true rfl⟩ ?_
  refine x_iload_n dX5_gainOf_36 rfl ?_
  refine x_iast (9 * 1 + f) dX5_gainOf_37 rfl (by omega) (show _ < 63 by omega) ?_
  refine x_iconst dX5_gainOf_38 ?_
  refine x_aload_n dX5_gainOf_39 rfl ?_
  refine x_getR (j := 57) dX5_gainOf_40 gf_RX5_28 rfl rfl (hN _ _ (by decide)) ?_
  refine x_iload_n dX5_gainOf_43 rfl ?_
  refine x_iald (f) dX5_gainOf_44 rfl hf (show _ < 9 by omega) ?_
  rw [up_n1 (by omega), fmJ_t hfn, hF2, hX.l0]
  refine x_imul dX5_gainOf_45 ?_
  refine x_iconst dX5_gainOf_46 ?_
  refine x_iload_n dX5_gainOf_47 rfl ?_
  refine x_imul dX5_gainOf_48 ?_
  refine x_isub dX5_gainOf_49 ?_
  refine hret _ _ _ _ _ _ dX5_gainOf_50 rfl ?_
  refine ⟨rfl, rfl, ⟨rfl, by omega, by omega⟩, hX.fl.back rfl, fun a b ha => ?_, fun b hb => ?_⟩
  · rw [up_n1 (by omega), fmJ_o (by omega) (by omega), up_n1 (by omega)]
  · rw [up_n1 (by omega), fmJ_o (by omega) (by omega), up_n1 (by omega)]
theorem sp_isRest (hN : NS N) (hB : RM I n) (q row : Nat) (hq4 : q < 4) (hr : row < 5 ^ q) {c : Nat → Nat} (hm : I 50 27 = (q : Int)) (hc : ∀ j, j < q → I 64 j = (c j : Int) ∧ c j < n) (hi : inj1 c q) {F : FT} (hF : fm I = wfc F c (dg5 q row) q) : SpI G mX5_isRest .boolean 4 92 0 0 [.ref 50] K N I (pI K N (fun z J => z = (if rsP (gn5 F (l0M I 0) q c) q row then 1 else 0) ∧ kpG I J)) := by
  refine SpI.of (own := RX5) (cc := cX5_isRest) (L := [some (.ref 50), none, none, none, none]) (by decide) rfl rfl (Nat.le_of_ble_eq_true rfl) rfl (fun Fx hnm hret => ?_)
  have hn9 := hB.2.2.1
  obtain ⟨g, hg⟩ : ∃ g, g = gn5 F (l0M I 0) q c := ⟨_, rfl⟩
  have hown : ∀ k, k < q → 4 * tok (fm I) 0 (l0M I 0) (c k) - 3 * fm I (c k) 1 = g row k := fun k hk => by rw [hg, hF]; rfl
  have hoth : ∀ k, k < q → ∀ w : Nat, w < 5 → 4 * tok (setF (fm I) (c k) 1 (w : Int)) 0 (l0M I 0) (c k) - 3 * (w : Int) = g (r25 q row k w) k := fun k hk w hw => by
    rw [hg, hF, wfc_put hi hq4 hr hk hw]
    unfold gn5
    rw [wfc_at q hi k hk, dg_all q hq4 k hk row hr w hw k hk, if_pos rfl]
  rw [← hg] at hret
  have lp : ∀ (m : Nat) (k : Nat) (x a : Int) (J : MM), k ≤ q → q < k + m → x = (k : Int) → (a = 0 ∨ a = 1) → (a = 1 ↔ ∀ i, i < k → ∀ w, w < 5 → g (r25 q row i w) i ≤ g row i) → kpG I J → XX G RX5 cX5_isRest (RmW 4 92 0 0) Fx 4 [some (.ref 50), some (vi a), some (vi x), none, none] [] K N J 0 0 := by
    intro m
    induction m with
    | zero => intros; exfalso; omega
    | succ m ih =>
      intro k x a J h0 h1 h2 h3 h4 h5
      have hBJ := h5.1.RM hB
      have hJm : J 50 27 = (q : Int) := (h5.2.2 27 (by decide)).trans hm
      have hJc : k < q → J 64 k = (c k : Int) := fun hk => (h5.2.1 64 k (by decide)).trans (hc k hk).1
      have hcn : k < q → c k < n := fun hk => (hc k hk).2
      have hbw : k < q → 0 ≤ fm I (c k) 1 ∧ fm I (c k) 1 ≤ 9 := fun hk => (hB.2.2.2.1 (c k) (hcn hk)).2.1
      refine x_iload_n dX5_isRest_4 rfl ?_
      refine x_aload_n dX5_isRest_5 rfl ?_
      refine x_getI dX5_isRest_6 gf_RX5_207 rfl rfl ?_
      rw [hJm]
      refine x_icmp_ge 85 dX5_isRest_9 (by decide) (by unfold inr; omega) (by unfold inr; omega) (fun h_9 => ?_) (fun h_9 => ?_)
      · refine x_iload_n dX5_isRest_85 rfl ?_
        obtain rfl : k = q := by omega
        have har : a = (if rsP g k row then 1 else 0) := by
          rcases h3 with e | e
          · rw [if_neg (fun y => by have := h4.mpr y; omega)]; exact e
          · rw [if_pos (h4.mp e)]; exact e
        refine hret _ _ _ _ _ _ dX5_isRest_86 (show narrow .boolean (vi a) = vi a by rw [har]; exact nbz) ?_
        exact ⟨rfl, rfl, har, h5⟩
      · refine x_aload_n dX5_isRest_12 rfl ?_
        refine x_aload_n dX5_isRest_13 rfl ?_
        refine x_getR (j := 64) dX5_isRest_14 gf_RX5_49 rfl rfl (hN _ _ (by decide)) ?_
        refine x_iload_n dX5_isRest_17 rfl ?_
        refine x_iald (k) dX5_isRest_18 rfl h2 (show _ < 9 by omega) ?_
        have hkq : k < q := by omega
        have hck := hcn hkq
        rw [hJc hkq]
        refine x_aload_n dX5_isRest_19 rfl ?_
        refine x_getR (j := 51) dX5_isRest_20 gf_RX5_7 rfl rfl (hN _ _ (by decide)) ?_
        refine x_iconst dX5_isRest_23 ?_
        refine x_aload_n dX5_isRest_24 rfl ?_
        refine x_getR (j := 64) dX5_isRest_25 gf_RX5_49 rfl rfl (hN _ _ (by decide)) ?_
        refine x_iload_n dX5_isRest_28 rfl ?_
        refine x_iald (k) dX5_isRest_29 rfl h2 (show _ < 9 by omega) ?_
        rw [hJc hkq]
        refine xf_SI2 dX5_isRest_30 ml_RX5_82 vw_X5_at st_X5_at (sp_at) ⟨Nat.le_of_ble_eq_true rfl, Nat.le_of_ble_eq_true rfl, Nat.le_of_ble_eq_true rfl, Nat.le_of_ble_eq_true rfl, Nat.le_of_ble_eq_true rfl⟩ ?_
        refine x_iald (9 * 1 + c k) dX5_isRest_33 rfl (by omega) (show _ < 63 by omega) ?_
        rw [show J 51 (9 * 1 + (c k)) = fm J (c k) 1 from (fm_at (by omega)).symm]
        rw [h5.1.fm]
        refine xp_VI2 dX5_isRest_34 ml_RX5_210 vw_X5_gainOf vv_X5_gainOf rfl (sp_gainOf hN hBJ (c k) (hcn hkq) rfl (hbw hkq)) ⟨Nat.le_of_ble_eq_true rfl, Nat.le_of_ble_eq_true rfl, Nat.le_of_ble_eq_true rfl, Nat.le_of_ble_eq_true rfl, Nat.le_of_ble_eq_true rfl⟩ (fun z1 I1 hq => ?_)
        obtain ⟨⟨hz, hzb⟩, hk2⟩ := hq
        rw [h5.1.fm, h5.1.l0, setF_same, hown k hkq] at hz
        refine x_ist3 dX5_isRest_37 ?_
        refine x_iconst dX5_isRest_38 ?_
        refine x_ist4 dX5_isRest_39 ?_
        have lp : ∀ (m2 : Nat) (u : Nat) (y a : Int) (J : MM), u ≤ 5 → 5 < u + m2 → y = (u : Int) → (a = 0 ∨ a = 1) → (a = 1 ↔ (∀ i, i < k → ∀ w, w < 5 → g (r25 q row i w) i ≤ g row i) ∧ ∀ w, w < u → g (r25 q row k w) k ≤ g row k) → kpG I J → XX G RX5 cX5_isRest (RmW 4 92 0 0) Fx 41 [some (.ref 50), some (vi a), some (vi x), some (vi z1), some (vi y)] [] K N J 0 0 := by
          intro m2
          induction m2 with
          | zero => intros; exfalso; omega
          | succ m2 ih2 =>
            intro u y a J g0 g1 g2 g3 g4 g5
            have hBJ := g5.1.RM hB
            have hJc : J 64 k = (c k : Int) := (g5.2.1 64 k (by decide)).trans (hc k hkq).1
            refine x_iload dX5_isRest_41 rfl ?_
            refine x_iconst dX5_isRest_43 ?_
            refine x_icmp_ge 79 dX5_isRest_44 (by decide) (by unfold inr; omega) (by unfold inr; omega) (fun h_44 => ?_) (fun h_44 => ?_)
            · refine x_inc2 dX5_isRest_79 ?_
              refine x_goto 4 dX5_isRest_82 (by decide) ?_
              obtain rfl : u = 5 := by omega
              refine x_dr3 (x_dr4 (ih (k + 1) _ _ _ (by omega) (by omega) (by omega) g3 ?_ g5))
              rw [g4]
              refine ⟨fun e i hi w hw => ?_, fun e => ⟨fun i hi => e i (by omega), fun w hw => e k (by omega) w hw⟩⟩
              rcases (by omega : i < k ∨ i = k) with z | rfl
              · exact e.1 i z w hw
              · exact e.2 w hw
            · refine x_iload_n dX5_isRest_47 rfl ?_
              refine x_if_eq 71 dX5_isRest_48 (by decide) (by unfold inr; omega) (fun h_48 => ?_) (fun h_48 => ?_)
              · refine x_iconst dX5_isRest_71 ?_
                refine x_ist1 dX5_isRest_72 ?_
                refine x_inc4 dX5_isRest_73 ?_
                refine x_goto 41 dX5_isRest_76 (by decide) ?_
                first
                | (refine ih2 (u + 1) _ _ _ (by omega) (by omega) (by omega) (by omega) ?_ g5
                   refine ⟨fun e => by exfalso; omega, fun e => ?_⟩
                   have e2 := g4.mpr ⟨e.1, fun w hw => e.2 w (by omega)⟩
                   exfalso; omega)
                | (refine ih2 (u + 1) _ _ _ (by omega) (by omega) (by omega) (by omega) ?_ (g5.tr hk3)
                   have ga := g4.mp (by omega)
                   first
                   | (refine ⟨fun _ => ⟨ga.1, fun w hw => ?_⟩, fun _ => rfl⟩
                      rcases (by omega : w < u ∨ w = u) with e | rfl
                      · exact ga.2 w e
                      · omega)
                   | (refine ⟨fun e => by exfalso; omega, fun e => ?_⟩
                      have e2 := e.2 u (by omega)
                      exfalso; omega))
              · refine x_aload_n dX5_isRest_51 rfl ?_
                refine x_aload_n dX5_isRest_52 rfl ?_
                refine x_getR (j := 64) dX5_isRest_53 gf_RX5_49 rfl rfl (hN _ _ (by decide)) ?_
                refine x_iload_n dX5_isRest_56 rfl ?_
                refine x_iald (k) dX5_isRest_57 rfl h2 (show _ < 9 by omega) ?_
                rw [hJc]
                refine x_iload dX5_isRest_58 rfl ?_
                refine xp_VI2 dX5_isRest_60 ml_RX5_210 vw_X5_gainOf vv_X5_gainOf rfl (sp_gainOf hN hBJ (c k) hck rfl (by omega)) ⟨Nat.le_of_ble_eq_true rfl, Nat.le_of_ble_eq_true rfl, Nat.le_of_ble_eq_true rfl, Nat.le_of_ble_eq_true rfl, Nat.le_of_ble_eq_true rfl⟩ (fun z1 I1 hq => ?_)
                obtain ⟨⟨hw, hwb⟩, hk3⟩ := hq
                rw [g5.1.fm, g5.1.l0, g2, hoth k hkq u (by omega)] at hw
                refine x_iload_n dX5_isRest_63 rfl ?_
                refine x_icmp_gt 71 dX5_isRest_64 (by decide) (by unfold inr; omega) (by unfold inr; omega) (fun h_64 => ?_) (fun h_64 => ?_)
                · refine x_iconst dX5_isRest_71 ?_
                  refine x_ist1 dX5_isRest_72 ?_
                  refine x_inc4 dX5_isRest_73 ?_
                  refine x_goto 41 dX5_isRest_76 (by decide) ?_
                  first
                  | (refine ih2 (u + 1) _ _ _ (by omega) (by omega) (by omega) (by omega) ?_ g5
                     refine ⟨fun e => by exfalso; omega, fun e => ?_⟩
                     have e2 := g4.mpr ⟨e.1, fun w hw => e.2 w (by omega)⟩
                     exfalso; omega)
                  | (refine ih2 (u + 1) _ _ _ (by omega) (by omega) (by omega) (by omega) ?_ (g5.tr hk3)
                     have ga := g4.mp (by omega)
                     first
                     | (refine ⟨fun _ => ⟨ga.1, fun w hw => ?_⟩, fun _ => rfl⟩
                        rcases (by omega : w < u ∨ w = u) with e | rfl
                        · exact ga.2 w e
                        · omega)
                     | (refine ⟨fun e => by exfalso; omega, fun e => ?_⟩
                        have e2 := e.2 u (by omega)
                        exfalso; omega))
                · refine x_iconst dX5_isRest_67 ?_
                  refine x_goto 72 dX5_isRest_68 (by decide) ?_
                  refine x_ist1 dX5_isRest_72 ?_
                  refine x_inc4 dX5_isRest_73 ?_
                  refine x_goto 41 dX5_isRest_76 (by decide) ?_
                  first
                  | (refine ih2 (u + 1) _ _ _ (by omega) (by omega) (by omega) (by omega) ?_ g5
                     refine ⟨fun e => by exfalso; omega, fun e => ?_⟩
                     have e2 := g4.mpr ⟨e.1, fun w hw => e.2 w (by omega)⟩
                     exfalso; omega)
                  | (refine ih2 (u + 1) _ _ _ (by omega) (by omega) (by omega) (by omega) ?_ (g5.tr hk3)
                     have ga := g4.mp (by omega)
                     first
                     | (refine ⟨fun _ => ⟨ga.1, fun w hw => ?_⟩, fun _ => rfl⟩
                        rcases (by omega : w < u ∨ w = u) with e | rfl
                        · exact ga.2 w e
                        · omega)
                     | (refine ⟨fun e => by exfalso; omega, fun e => ?_⟩
                        have e2 := e.2 u (by omega)
                        exfalso; omega))
        exact lp 6 0 _ _ _ (by omega) (by omega) rfl h3 (by rw [h4]; exact ⟨fun e => ⟨e, fun w hw => absurd hw (Nat.not_lt_zero w)⟩, fun e => e.1⟩) (h5.tr hk2)
  refine x_iconst dX5_isRest_0 ?_
  refine x_ist1 dX5_isRest_1 ?_
  refine x_iconst dX5_isRest_2 ?_
  refine x_ist2 dX5_isRest_3 ?_
  exact lp (q + 1) 0 _ _ _ (by omega) (by omega) rfl (Or.inr rfl) ⟨fun _ i hi => absurd hi (Nat.not_lt_zero i), fun _ => rfl⟩ kpG.rf
theorem sp_keepNow (hN : NS N) : SpV G mX5_keepNow 0 0 0 0 [.ref 50] K N I (qV K N (kepJ I)) := by
  refine SpV.of (own := RX5) (cc := cX5_keepNow) (L := [some (.ref 50), none]) (by decide) rfl rfl (Nat.le_of_ble_eq_true rfl) rfl (fun Fx hnm hret => ?_)
  have lp : ∀ (m : Nat) (k : Nat) (x : Int) (J : MM), k ≤ 63 → 63 < k + m → x = (k : Int) → J = (fun a b => if a = 59 ∧ b < k then I 51 b else I a b) → XX G RX5 cX5_keepNow (RmW 0 0 0 0) Fx 2 [some (.ref 50), some (vi x)] [] K N J 0 0 := by
    intro m
    induction m with
    | zero => intros; exfalso; omega
    | succ m ih =>
      intro k x J h0 h1 h2 h3
      refine x_iload_n dX5_keepNow_2 rfl ?_
      refine x_bipush dX5_keepNow_3 (by decide) ?_
      refine x_icmp_ge 26 dX5_keepNow_5 (by decide) (by unfold inr; omega) (by unfold inr; omega) (fun h_5 => ?_) (fun h_5 => ?_)
      · refine x_aload_n dX5_keepNow_26 rfl ?_
        refine x_aload_n dX5_keepNow_27 rfl ?_
        refine x_getI dX5_keepNow_28 gf_RX5_76 rfl rfl ?_
        rw [show J 50 5 = I 50 5 by rw [h3]; exact if_neg (by omega)]
        refine x_putI dX5_keepNow_31 pf_RX5_134 rfl rfl ?_
        refine hret _ _ _ _ _ dX5_keepNow_34 ?_
        obtain rfl : k = 63 := by omega
        refine ⟨rfl, rfl, ?_⟩
        rw [h3]
        funext a b
        unfold up kepJ
        by_cases z : a = 50 ∧ b = 18
        · rw [if_pos z]
        · rw [if_neg z]
      · refine x_aload_n dX5_keepNow_8 rfl ?_
        refine x_getR (j := 59) dX5_keepNow_9 gf_RX5_34 rfl rfl (hN _ _ (by decide)) ?_
        refine x_iload_n dX5_keepNow_12 rfl ?_
        refine x_aload_n dX5_keepNow_13 rfl ?_
        refine x_getR (j := 51) dX5_keepNow_14 gf_RX5_7 rfl rfl (hN _ _ (by decide)) ?_
        refine x_iload_n dX5_keepNow_17 rfl ?_
        refine x_iald (k) dX5_keepNow_18 rfl h2 (show _ < 63 by omega) ?_
        rw [show J 51 k = I 51 k by rw [h3]; exact if_neg (by omega)]
        refine x_iast (k) dX5_keepNow_19 rfl h2 (show _ < 63 by omega) ?_
        refine x_inc1 dX5_keepNow_20 ?_
        refine x_goto 2 dX5_keepNow_23 (by decide) ?_
        refine ih (k + 1) _ _ (by omega) (by omega) (by omega) ?_
        rw [h3]
        funext a b
        unfold up
        by_cases z : a = 59 ∧ b = k
        · rw [if_pos z, if_pos ⟨z.1, by omega⟩, z.2]
        · rw [if_neg z]
          show (if a = 59 ∧ b < k then I 51 b else I a b) = _
          by_cases y : a = 59 ∧ b < k
          · rw [if_pos y, if_pos ⟨y.1, by omega⟩]
          · rw [if_neg y, if_neg (by omega)]
  refine x_iconst dX5_keepNow_0 ?_
  refine x_ist1 dX5_keepNow_1 ?_
  refine lp 64 0 _ _ (by omega) (by omega) rfl ?_
  funext a b
  rw [if_neg (by omega)]
theorem sp_putBack (hN : NS N) : SpV G mX5_putBack 0 0 0 0 [.ref 50] K N I (qV K N (bakJ I)) := by
  refine SpV.of (own := RX5) (cc := cX5_putBack) (L := [some (.ref 50), none]) (by decide) rfl rfl (Nat.le_of_ble_eq_true rfl) rfl (fun Fx hnm hret => ?_)
  have lp : ∀ (m : Nat) (k : Nat) (x : Int) (J : MM), k ≤ 63 → 63 < k + m → x = (k : Int) → J = (fun a b => if a = 51 ∧ b < k then I 59 b else I a b) → XX G RX5 cX5_putBack (RmW 0 0 0 0) Fx 2 [some (.ref 50), some (vi x)] [] K N J 0 0 := by
    intro m
    induction m with
    | zero => intros; exfalso; omega
    | succ m ih =>
      intro k x J h0 h1 h2 h3
      refine x_iload_n dX5_putBack_2 rfl ?_
      refine x_bipush dX5_putBack_3 (by decide) ?_
      refine x_icmp_ge 26 dX5_putBack_5 (by decide) (by unfold inr; omega) (by unfold inr; omega) (fun h_5 => ?_) (fun h_5 => ?_)
      · refine x_aload_n dX5_putBack_26 rfl ?_
        refine x_aload_n dX5_putBack_27 rfl ?_
        refine x_getI dX5_putBack_28 gf_RX5_134 rfl rfl ?_
        rw [show J 50 18 = I 50 18 by rw [h3]; exact if_neg (by omega)]
        refine x_putI dX5_putBack_31 pf_RX5_76 rfl rfl ?_
        refine hret _ _ _ _ _ dX5_putBack_34 ?_
        obtain rfl : k = 63 := by omega
        refine ⟨rfl, rfl, ?_⟩
        rw [h3]
        funext a b
        unfold up bakJ
        by_cases z : a = 50 ∧ b = 5
        · rw [if_pos z]
        · rw [if_neg z]
      · refine x_aload_n dX5_putBack_8 rfl ?_
        refine x_getR (j := 51) dX5_putBack_9 gf_RX5_7 rfl rfl (hN _ _ (by decide)) ?_
        refine x_iload_n dX5_putBack_12 rfl ?_
        refine x_aload_n dX5_putBack_13 rfl ?_
        refine x_getR (j := 59) dX5_putBack_14 gf_RX5_34 rfl rfl (hN _ _ (by decide)) ?_
        refine x_iload_n dX5_putBack_17 rfl ?_
        refine x_iald (k) dX5_putBack_18 rfl h2 (show _ < 63 by omega) ?_
        rw [show J 59 k = I 59 k by rw [h3]; exact if_neg (by omega)]
        refine x_iast (k) dX5_putBack_19 rfl h2 (show _ < 63 by omega) ?_
        refine x_inc1 dX5_putBack_20 ?_
        refine x_goto 2 dX5_putBack_23 (by decide) ?_
        refine ih (k + 1) _ _ (by omega) (by omega) (by omega) ?_
        rw [h3]
        funext a b
        unfold up
        by_cases z : a = 51 ∧ b = k
        · rw [if_pos z, if_pos ⟨z.1, by omega⟩, z.2]
        · rw [if_neg z]
          show (if a = 51 ∧ b < k then I 59 b else I a b) = _
          by_cases y : a = 51 ∧ b < k
          · rw [if_pos y, if_pos ⟨y.1, by omega⟩]
          · rw [if_neg y, if_neg (by omega)]
  refine x_iconst dX5_putBack_0 ?_
  refine x_ist1 dX5_putBack_1 ?_
  refine lp 64 0 _ _ (by omega) (by omega) rfl ?_
  funext a b
  rw [if_neg (by omega)]
end FR

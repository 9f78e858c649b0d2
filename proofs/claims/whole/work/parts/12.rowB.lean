/-! ===== rows and hours: the rest ===== -/
def sumN (g : Nat → Int) : Nat → Int
  | 0 => 0
  | n + 1 => sumN g n + g n
def anyZ (g : Nat → Int) : Nat → Int
  | 0 => 0
  | n + 1 => if anyZ g n = 1 ∨ g n = 0 then 1 else 0
theorem anyZ_up {g : Nat → Int} {f : Nat} (h : anyZ g f = 1) : ∀ d, anyZ g (f + d) = 1
  | 0 => h
  | d + 1 => if_pos (Or.inl (anyZ_up h d))
def keJ (I : MM) (b c n : Nat) : MM := fun a k => if a = b ∧ k = 1 then I b 1 + I c 2 else if a = b + 1 ∧ k % 7 = 6 ∧ k / 7 < n then I a k + I (c + 1) (k / 7) else I a k
def keS (I : MM) (b c n : Nat) : MM := fun a k => if a = b + 1 ∧ k % 7 = 6 ∧ k / 7 < n then I a k + I (c + 1) (k / 7) else I a k
def apJ (I : MM) (b f : Nat) (a : Int) : MM := if a = 4 then up I (b + 1) (7 * f + 4) (1 - fa I b f 4) else if a = 5 then up I (b + 1) (7 * f + 0) (fa I b f 0 - 1) else if a = 6 then up I (b + 1) (7 * f + 0) (fa I b f 0 + 1) else if a = 7 then up I (b + 1) (7 * f + 1) (fa I b f 1 + 1) else I
def cpR (I : MM) (s d : Nat) : MM := fun a k => if a = d ∧ k < 3 then I s k else if a = d + 1 ∧ k < 63 then I (s + 1) k else if a = d + 2 ∧ k < 3 then I (s + 2) k else if a = d + 3 ∧ k < 8 then I (s + 3) k else if a = d + 4 ∧ k < 8 then I (s + 4) k else I a k
def fst7 (j : Nat) : Int := if j = 1 then 1 else if j = 2 then 5 else 0
def beJ (I : MM) (b : Nat) (n : Int) : MM := fun a k => if a = b ∧ k = 0 then n else if a = b ∧ (k = 1 ∨ k = 2) then 0 else if a = b + 1 ∧ k < 63 then fst7 (k % 7) else I a k
def beS (I : MM) (b : Nat) (n : Int) (f : Nat) : MM := fun a k => if a = b ∧ k = 0 then n else if a = b ∧ (k = 1 ∨ k = 2) then 0 else if a = b + 1 ∧ k < 7 * f then fst7 (k % 7) else I a k
theorem keS_st {I : MM} {b c f : Nat} (hap : b + 4 < c ∨ c + 2 < b) (hf : f < 9) : up (keS I b c f) (b + 1) (7 * f + 6) (fa I b f 6 + I (c + 1) f) = keS I b c (f + 1) := by
  rw [fa_at ⟨hf, by decide⟩]
  funext a k
  simp only [up, keS]
  by_cases h1 : a = b + 1
  · subst h1
    by_cases h2 : k = 7 * f + 6
    · subst h2
      have e1 : (7 * f + 6) / 7 = f := by omega
      have e2 : (7 * f + 6) % 7 = 6 := by omega
      simp [e1, e2]
    · by_cases h3 : k % 7 = 6 ∧ k / 7 < f
      · have h4 : k / 7 < f + 1 := by omega
        simp [h2, h3, h4]
      · have h4 : ¬ (k % 7 = 6 ∧ k / 7 < f + 1) := by omega
        simp [h2, h3, h4]
  · simp [h1]
theorem cpR_st {I : MM} {s d : Nat} (hap : s + 4 < d ∨ d + 4 < s) : cpI (cpI (cpI (cpI (up (up (up I d 0 (I s 0)) d 1 (I s 1)) d 2 (I s 2)) (s + 1) 0 (d + 1) 0 63) (s + 2) 0 (d + 2) 0 3) (s + 3) 0 (d + 3) 0 8) (s + 4) 0 (d + 4) 0 8 = cpR I s d := by
  funext a k
  have e : ∀ j : Nat, j ≤ 4 → ∀ i : Nat, i ≤ 4 → s + j ≠ d + i := fun j h i h2 => by omega
  by_cases h0 : a = d
  · subst h0
    rcases (by omega : k = 0 ∨ k = 1 ∨ k = 2 ∨ 2 < k) with rfl | rfl | rfl | h
    · simp [cpI, up, cpR]
    · simp [cpI, up, cpR]
    · simp [cpI, up, cpR]
    · have h1 : ¬ k < 3 := by omega
      have h2 : k ≠ 0 := by omega
      have h3 : k ≠ 1 := by omega
      have h4 : k ≠ 2 := by omega
      simp [cpI, up, cpR, h1, h2, h3, h4]
  · have g0 : s ≠ d := by omega
    have g1 : s + 1 ≠ d := by omega
    have g2 : s + 2 ≠ d := by omega
    have g3 : s + 3 ≠ d := by omega
    have g4 : s + 4 ≠ d := by omega
    by_cases h1 : a = d + 1
    · subst h1
      simp [cpI, up, cpR, g1]
    · by_cases h2 : a = d + 2
      · subst h2
        have f1 : s + 2 ≠ d + 1 := by omega
        simp [cpI, up, cpR, g2, f1]
      · by_cases h3 : a = d + 3
        · subst h3
          have f1 : s + 3 ≠ d + 1 := by omega
          have f2 : s + 3 ≠ d + 2 := by omega
          simp [cpI, up, cpR, g3, f1, f2]
        · by_cases h4 : a = d + 4
          · subst h4
            have f1 : s + 4 ≠ d + 1 := by omega
            have f2 : s + 4 ≠ d + 2 := by omega
            have f3 : s + 4 ≠ d + 3 := by omega
            simp [cpI, up, cpR, g4, f1, f2, f3]
          · simp [cpI, up, cpR, h0, h1, h2, h3, h4]
theorem beS_st {I : MM} {b f : Nat} {n : Int} : (fun a k => if a = b + 1 ∧ 7 * f ≤ k ∧ k < 7 * f + 7 then (stl 1).getD (0 + (k - 7 * f)) 0 else beS I b n f a k : MM) = beS I b n (f + 1) := by
  funext a k
  simp only [beS]
  by_cases h1 : a = b + 1
  · subst h1
    by_cases h2 : 7 * f ≤ k ∧ k < 7 * f + 7
    · have e : k % 7 = k - 7 * f := by omega
      have h3 : k < 7 * (f + 1) := by omega
      simp only [h2, h3, e, and_self, if_true]
      have : k - 7 * f < 7 := by omega
      have key : ∀ j, j < 7 → (stl 1).getD (0 + j) 0 = fst7 j := by decide
      rw [key _ this]
      simp
    · by_cases h3 : k < 7 * f
      · have h4 : k < 7 * (f + 1) := by omega
        simp [h2, h3, h4]
      · have h4 : ¬ k < 7 * (f + 1) := by omega
        simp [h2, h3, h4]
  · simp [h1]
section FR
variable {G : GT} {K : List Nat} {N : NN} {I : MM} {b c d s : Nat}
theorem sp_sum (hc : kd c = 2) (hN : NS N) {n : Nat} {zn : Int} (hn : zn = (n : Int)) (h9 : n ≤ 9) : SpI G mX2_sum .int 0 0 0 0 [.ref c, vi zn] K N I (qI K N I (sumN (I (c + 1)) n)) := by
  refine SpI.of (own := RX2) (cc := cX2_sum) (L := [some (.ref c), some (vi zn), none, none]) (by decide) rfl rfl (Nat.le_of_ble_eq_true rfl) rfl (fun Fx hnm hret => ?_)
  have lp : ∀ (m : Nat) (f : Nat) (z l : Int), f ≤ n → n < f + m → z = (f : Int) → l = sumN (I (c + 1)) f → XX G RX2 cX2_sum (RmW 0 0 0 0) Fx 4 [some (.ref c), some (vi zn), some (vi l), some (vi z)] [] K N I 0 0 := by
    intro m
    induction m with
    | zero => intros; exfalso; omega
    | succ m ih =>
      intro f z l h0 h1 h2 h3
      refine x_iload_n dX2_sum_4 rfl ?_
      refine x_iload_n dX2_sum_5 rfl ?_
      refine x_icmp_ge 24 dX2_sum_6 (by decide) (by unfold inr; omega) (by unfold inr; omega) (fun h_6 => ?_) (fun h_6 => ?_)
      · refine x_iload_n dX2_sum_24 rfl ?_
        refine hret _ _ _ _ _ _ dX2_sum_25 rfl ?_
        obtain rfl : f = n := by omega
        exact ⟨rfl, rfl, rfl, h3⟩
      · refine x_iload_n dX2_sum_9 rfl ?_
        refine x_aload_n dX2_sum_10 rfl ?_
        refine x_getR dX2_sum_11 gf_RX2_9 hc (tg_H0 hc) (hN _ _ (ne11_H hc)) ?_
        refine x_iload_n dX2_sum_14 rfl ?_
        refine x_iald (f) dX2_sum_15 (kd_H1 hc) h2 (by rw [ln_H1 hc]; omega) ?_
        refine x_iadd dX2_sum_16 ?_
        refine x_ist2 dX2_sum_17 ?_
        refine x_inc3 dX2_sum_18 ?_
        refine x_goto 4 dX2_sum_21 (by decide) ?_
        exact ih (f + 1) _ _ (by omega) (by omega) (by omega) (by rw [h3]; rfl)
  refine x_iconst dX2_sum_0 ?_
  refine x_ist2 dX2_sum_1 ?_
  refine x_iconst dX2_sum_2 ?_
  refine x_ist3 dX2_sum_3 ?_
  exact lp (n + 1) 0 _ _ (by omega) (by omega) rfl rfl
theorem sp_some (hc : kd c = 2) (hN : NS N) {n : Nat} {zn : Int} (hn : zn = (n : Int)) (h9 : n ≤ 9) (hr : ∀ k, k < n → inr (I (c + 1) k)) : SpI G mX2_someTookNothing .boolean 0 0 0 0 [.ref c, vi zn] K N I (qI K N I (if anyZ (I (c + 1)) n = 1 then 1 else 0)) := by
  refine SpI.of (own := RX2) (cc := cX2_someTookNothing) (L := [some (.ref c), some (vi zn), none]) (by decide) rfl rfl (Nat.le_of_ble_eq_true rfl) rfl (fun Fx hnm hret => ?_)
  have lp : ∀ (m : Nat) (f : Nat) (z : Int), f ≤ n → n < f + m → z = (f : Int) → anyZ (I (c + 1)) f = 0 → XX G RX2 cX2_someTookNothing (RmW 0 0 0 0) Fx 2 [some (.ref c), some (vi zn), some (vi z)] [] K N I 0 0 := by
    intro m
    induction m with
    | zero => intros; exfalso; omega
    | succ m ih =>
      intro f z h0 h1 h2 h3
      refine x_iload_n dX2_someTookNothing_2 rfl ?_
      refine x_iload_n dX2_someTookNothing_3 rfl ?_
      refine x_icmp_ge 24 dX2_someTookNothing_4 (by decide) (by unfold inr; omega) (by unfold inr; omega) (fun h_4 => ?_) (fun h_4 => ?_)
      · refine x_iconst dX2_someTookNothing_24 ?_
        refine hret _ _ _ _ _ _ dX2_someTookNothing_25 rfl ?_
        obtain rfl : f = n := by omega
        exact ⟨rfl, rfl, rfl, by rw [if_neg (by rw [h3]; decide)]⟩
      · refine x_aload_n dX2_someTookNothing_7 rfl ?_
        refine x_getR dX2_someTookNothing_8 gf_RX2_9 hc (tg_H0 hc) (hN _ _ (ne11_H hc)) ?_
        refine x_iload_n dX2_someTookNothing_11 rfl ?_
        refine x_iald (f) dX2_someTookNothing_12 (kd_H1 hc) h2 (by rw [ln_H1 hc]; omega) ?_
        refine x_if_ne 18 dX2_someTookNothing_13 (by decide) (hr f (by omega)) (fun h_13 => ?_) (fun h_13 => ?_)
        · refine x_inc2 dX2_someTookNothing_18 ?_
          refine x_goto 2 dX2_someTookNothing_21 (by decide) ?_
          exact ih (f + 1) _ (by omega) (by omega) (by omega) (by show (if _ then _ else _) = _; rw [if_neg (by rintro (q | q) <;> omega)])
        · refine x_iconst dX2_someTookNothing_16 ?_
          refine hret _ _ _ _ _ _ dX2_someTookNothing_17 rfl ?_
          have e : anyZ (I (c + 1)) (f + 1) = 1 := by show (if _ then _ else _) = _; rw [if_pos (Or.inr h_13)]
          obtain ⟨q, rfl⟩ : ∃ q, n = (f + 1) + q := ⟨n - (f + 1), by omega⟩
          exact ⟨rfl, rfl, rfl, by rw [if_pos (anyZ_up e q)]⟩
  refine x_iconst dX2_someTookNothing_0 ?_
  refine x_ist2 dX2_someTookNothing_1 ?_
  exact lp (n + 1) 0 _ (by omega) (by omega) rfl rfl
theorem sp_keep (hb : kd b = 3) (hc : kd c = 2) (hN : NS N) {n : Nat} (hn : I b 0 = (n : Int)) (h9 : n ≤ 9) : SpV G mX3_keep 1 23 0 0 [.ref b, .ref c] K N I (qV K N (keJ I b c n)) := by
  refine SpV.of (own := RX3) (cc := cX3_keep) (L := [some (.ref b), some (.ref c), none]) (by decide) rfl rfl (Nat.le_of_ble_eq_true rfl) rfl (fun Fx hnm hret => ?_)
  have hap := apart_RH hb hc
  have lp : ∀ (m : Nat) (f : Nat) (z : Int) (J : MM), f ≤ n → n < f + m → z = (f : Int) → J = keS I b c f → XX G RX3 cX3_keep (RmW 1 23 0 0) Fx 2 [some (.ref b), some (.ref c), some (vi z)] [] K N J 0 0 := by
    intro m
    induction m with
    | zero => intros; exfalso; omega
    | succ m ih =>
      intro f z J h0 h1 h2 h3
      have hJ0 : J b 0 = (n : Int) := by rw [h3, ← hn]; simp only [keS]; rw [if_neg (by omega)]
      have hJ6 : fa J b f 6 = fa I b f 6 := by rw [h3]; unfold fa keS; split <;> first | rfl | rw [if_neg (by omega)]
      have hJt : J (c + 1) f = I (c + 1) f := by rw [h3]; simp only [keS]; rw [if_neg (by omega)]
      refine x_iload_n dX3_keep_2 rfl ?_
      refine x_aload_n dX3_keep_3 rfl ?_
      refine x_getI dX3_keep_4 gf_RX3_37 hb (tg_R0 hb) ?_
      rw [hJ0]
      refine x_icmp_ge 37 dX3_keep_7 (by decide) (by unfold inr; omega) (by unfold inr; omega) (fun h_7 => ?_) (fun h_7 => ?_)
      · refine x_aload_n dX3_keep_37 rfl ?_
        refine x_dupR dX3_keep_38 ?_
        refine x_getI dX3_keep_39 gf_RX3_41 hb (tg_R1 hb) ?_
        refine x_aload_n dX3_keep_42 rfl ?_
        refine x_getI dX3_keep_43 gf_RX3_78 hc (tg_H2 hc) ?_
        refine x_iadd dX3_keep_46 ?_
        refine x_putI dX3_keep_47 pf_RX3_41 hb (tg_R1 hb) ?_
        refine hret _ _ _ _ _ dX3_keep_50 ?_
        obtain rfl : f = n := by omega
        refine ⟨rfl, rfl, ?_⟩
        rw [h3]
        funext a k
        simp only [up, keJ, keS]
        have g1 : ¬ (b = b + 1) := by omega
        have g2 : ¬ (c = b + 1) := by omega
        simp only [g1, g2, false_and, if_false]
      · refine x_aload_n dX3_keep_10 rfl ?_
        refine x_iload_n dX3_keep_11 rfl ?_
        refine x_bipush dX3_keep_12 (by decide) ?_
        refine x_aload_n dX3_keep_14 rfl ?_
        refine x_iload_n dX3_keep_15 rfl ?_
        refine x_bipush dX3_keep_16 (by decide) ?_
        refine xf_VI2 dX3_keep_18 ml_RX3_50 vw_X3_fact vv_X3_fact (by rw [hb]; rfl) (sp_fact hb hN f 6 h2 rfl (by omega)) ⟨Nat.le_of_ble_eq_true rfl, Nat.le_of_ble_eq_true rfl, Nat.le_of_ble_eq_true rfl, Nat.le_of_ble_eq_true rfl, Nat.le_of_ble_eq_true rfl⟩ ?_
        rw [hJ6]
        refine x_aload_n dX3_keep_21 rfl ?_
        refine x_getR dX3_keep_22 gf_RX3_73 hc (tg_H0 hc) (hN _ _ (ne11_H hc)) ?_
        refine x_iload_n dX3_keep_25 rfl ?_
        refine x_iald (f) dX3_keep_26 (kd_H1 hc) h2 (by rw [ln_H1 hc]; omega) ?_
        rw [hJt]
        refine x_iadd dX3_keep_27 ?_
        refine xf_VV3 dX3_keep_28 ml_RX3_54 vw_X3_put vv_X3_put (by rw [hb]; rfl) (sp_put hb hN f 6 h2 rfl (by omega)) ⟨Nat.le_of_ble_eq_true rfl, Nat.le_of_ble_eq_true rfl, Nat.le_of_ble_eq_true rfl, Nat.le_of_ble_eq_true rfl, Nat.le_of_ble_eq_true rfl⟩ ?_
        refine x_inc2 dX3_keep_31 ?_
        refine x_goto 2 dX3_keep_34 (by decide) ?_
        exact ih (f + 1) _ _ (by omega) (by omega) (by omega) (by rw [h3]; exact keS_st hap (by omega))
  refine x_iconst dX3_keep_0 ?_
  refine x_ist2 dX3_keep_1 ?_
  exact lp (n + 1) 0 _ _ (by omega) (by omega) rfl (by funext a k; simp [keS])
theorem sp_apply (hb : kd b = 3) (hN : NS N) (f : Nat) {zf a : Int} (hf : zf = (f : Int)) (hl : f < 9) (ha : inr a) : SpV G mX3_apply 2 44 0 0 [.ref b, vi a, vi zf] K N I (qV K N (apJ I b f a)) := by
  refine SpV.of (own := RX3) (cc := cX3_apply) (L := [some (.ref b), some (vi a), some (vi zf)]) (by decide) rfl rfl (Nat.le_of_ble_eq_true rfl) rfl (fun Fx hnm hret => ?_)
  refine x_iload_n dX3_apply_0 rfl ?_
  rcases (show (a < 4 ∨ 7 < a) ∨ a = 4 ∨ a = 5 ∨ a = 6 ∨ a = 7 by omega) with h_1 | h_1 | h_1 | h_1 | h_1
  · refine x_tabOut 91 dX3_apply_1 ha h_1 (by decide) ?_
    refine hret _ _ _ _ _ dX3_apply_91 ?_
    refine ⟨rfl, rfl, ?_⟩
    unfold apJ
    repeat (first | rw [if_pos (by omega)] | rw [if_neg (by omega)])
  · refine x_tabIn 32 dX3_apply_1 ha (by omega) (by rw [h_1]; rfl) (by decide) ?_
    refine x_aload_n dX3_apply_32 rfl ?_
    refine x_iload_n dX3_apply_33 rfl ?_
    refine xf_VV1 dX3_apply_34 ml_RX3_70 vw_X3_turnPlug vv_X3_turnPlug (by rw [hb]; rfl) (sp_turnPlug hb hN f hf hl) ⟨Nat.le_of_ble_eq_true rfl, Nat.le_of_ble_eq_true rfl, Nat.le_of_ble_eq_true rfl, Nat.le_of_ble_eq_true rfl, Nat.le_of_ble_eq_true rfl⟩ ?_
    refine x_goto 91 dX3_apply_37 (by decide) ?_
    refine hret _ _ _ _ _ dX3_apply_91 ?_
    refine ⟨rfl, rfl, ?_⟩
    unfold apJ
    repeat (first | rw [if_pos (by omega)] | rw [if_neg (by omega)])
  · refine x_tabIn 40 dX3_apply_1 ha (by omega) (by rw [h_1]; rfl) (by decide) ?_
    refine x_aload_n dX3_apply_40 rfl ?_
    refine x_iload_n dX3_apply_41 rfl ?_
    refine x_iconst dX3_apply_42 ?_
    refine x_aload_n dX3_apply_43 rfl ?_
    refine x_iload_n dX3_apply_44 rfl ?_
    refine x_iconst dX3_apply_45 ?_
    refine xf_VI2 dX3_apply_46 ml_RX3_50 vw_X3_fact vv_X3_fact (by rw [hb]; rfl) (sp_fact hb hN f 0 hf rfl (by omega)) ⟨Nat.le_of_ble_eq_true rfl, Nat.le_of_ble_eq_true rfl, Nat.le_of_ble_eq_true rfl, Nat.le_of_ble_eq_true rfl, Nat.le_of_ble_eq_true rfl⟩ ?_
    refine x_iconst dX3_apply_49 ?_
    refine x_isub dX3_apply_50 ?_
    refine xf_VV3 dX3_apply_51 ml_RX3_54 vw_X3_put vv_X3_put (by rw [hb]; rfl) (sp_put hb hN f 0 hf rfl (by omega)) ⟨Nat.le_of_ble_eq_true rfl, Nat.le_of_ble_eq_true rfl, Nat.le_of_ble_eq_true rfl, Nat.le_of_ble_eq_true rfl, Nat.le_of_ble_eq_true rfl⟩ ?_
    refine x_goto 91 dX3_apply_54 (by decide) ?_
    refine hret _ _ _ _ _ dX3_apply_91 ?_
    refine ⟨rfl, rfl, ?_⟩
    unfold apJ
    repeat (first | rw [if_pos (by omega)] | rw [if_neg (by omega)])
  · refine x_tabIn 57 dX3_apply_1 ha (by omega) (by rw [h_1]; rfl) (by decide) ?_
    refine x_aload_n dX3_apply_57 rfl ?_
    refine x_iload_n dX3_apply_58 rfl ?_
    refine x_iconst dX3_apply_59 ?_
    refine x_aload_n dX3_apply_60 rfl ?_
    refine x_iload_n dX3_apply_61 rfl ?_
    refine x_iconst dX3_apply_62 ?_
    refine xf_VI2 dX3_apply_63 ml_RX3_50 vw_X3_fact vv_X3_fact (by rw [hb]; rfl) (sp_fact hb hN f 0 hf rfl (by omega)) ⟨Nat.le_of_ble_eq_true rfl, Nat.le_of_ble_eq_true rfl, Nat.le_of_ble_eq_true rfl, Nat.le_of_ble_eq_true rfl, Nat.le_of_ble_eq_true rfl⟩ ?_
    refine x_iconst dX3_apply_66 ?_
    refine x_iadd dX3_apply_67 ?_
    refine xf_VV3 dX3_apply_68 ml_RX3_54 vw_X3_put vv_X3_put (by rw [hb]; rfl) (sp_put hb hN f 0 hf rfl (by omega)) ⟨Nat.le_of_ble_eq_true rfl, Nat.le_of_ble_eq_true rfl, Nat.le_of_ble_eq_true rfl, Nat.le_of_ble_eq_true rfl, Nat.le_of_ble_eq_true rfl⟩ ?_
    refine x_goto 91 dX3_apply_71 (by decide) ?_
    refine hret _ _ _ _ _ dX3_apply_91 ?_
    refine ⟨rfl, rfl, ?_⟩
    unfold apJ
    repeat (first | rw [if_pos (by omega)] | rw [if_neg (by omega)])
  · refine x_tabIn 74 dX3_apply_1 ha (by omega) (by rw [h_1]; rfl) (by decide) ?_
    refine x_aload_n dX3_apply_74 rfl ?_
    refine x_iload_n dX3_apply_75 rfl ?_
    refine x_iconst dX3_apply_76 ?_
    refine x_aload_n dX3_apply_77 rfl ?_
    refine x_iload_n dX3_apply_78 rfl ?_
    refine x_iconst dX3_apply_79 ?_
    refine xf_VI2 dX3_apply_80 ml_RX3_50 vw_X3_fact vv_X3_fact (by rw [hb]; rfl) (sp_fact hb hN f 1 hf rfl (by omega)) ⟨Nat.le_of_ble_eq_true rfl, Nat.le_of_ble_eq_true rfl, Nat.le_of_ble_eq_true rfl, Nat.le_of_ble_eq_true rfl, Nat.le_of_ble_eq_true rfl⟩ ?_
    refine x_iconst dX3_apply_83 ?_
    refine x_iadd dX3_apply_84 ?_
    refine xf_VV3 dX3_apply_85 ml_RX3_54 vw_X3_put vv_X3_put (by rw [hb]; rfl) (sp_put hb hN f 1 hf rfl (by omega)) ⟨Nat.le_of_ble_eq_true rfl, Nat.le_of_ble_eq_true rfl, Nat.le_of_ble_eq_true rfl, Nat.le_of_ble_eq_true rfl, Nat.le_of_ble_eq_true rfl⟩ ?_
    refine x_goto 91 dX3_apply_88 (by decide) ?_
    refine hret _ _ _ _ _ dX3_apply_91 ?_
    refine ⟨rfl, rfl, ?_⟩
    unfold apJ
    repeat (first | rw [if_pos (by omega)] | rw [if_neg (by omega)])
theorem sp_copy (hd : kd d = 3) (hs : kd s = 3) (hne : s ≠ d) (hN : NS N) : SpV G mX3_copy 1 26 0 0 [.ref d, .ref s] K N I (qV K N (cpR I s d)) := by
  refine SpV.of (own := RX3) (cc := cX3_copy) (L := [some (.ref d), some (.ref s)]) (by decide) rfl rfl (Nat.le_of_ble_eq_true rfl) rfl (fun Fx hnm hret => ?_)
  have hap := apart_RR hs hd hne
  refine x_aload_n dX3_copy_0 rfl ?_
  refine x_aload_n dX3_copy_1 rfl ?_
  refine x_getI dX3_copy_2 gf_RX3_37 hs (tg_R0 hs) ?_
  refine x_putI dX3_copy_5 pf_RX3_37 hd (tg_R0 hd) ?_
  refine x_aload_n dX3_copy_8 rfl ?_
  refine x_aload_n dX3_copy_9 rfl ?_
  refine x_getI dX3_copy_10 gf_RX3_41 hs (tg_R1 hs) ?_
  rw [up_n1 (show s ≠ d by omega)]
  refine x_putI dX3_copy_13 pf_RX3_41 hd (tg_R1 hd) ?_
  refine x_aload_n dX3_copy_16 rfl ?_
  refine x_aload_n dX3_copy_17 rfl ?_
  refine x_getI dX3_copy_18 gf_RX3_44 hs (tg_R2 hs) ?_
  rw [up_n1 (show s ≠ d by omega), up_n1 (show s ≠ d by omega)]
  refine x_putI dX3_copy_21 pf_RX3_44 hd (tg_R2 hd) ?_
  refine x_aload_n dX3_copy_24 rfl ?_
  refine x_getR dX3_copy_25 gf_RX3_9 hs (tg_R3 hs) (hN _ _ (ne11_R hs)) ?_
  refine x_iconst dX3_copy_28 ?_
  refine x_aload_n dX3_copy_29 rfl ?_
  refine x_getR dX3_copy_30 gf_RX3_9 hd (tg_R3 hd) (hN _ _ (ne11_R hd)) ?_
  refine x_iconst dX3_copy_33 ?_
  refine x_aload_n dX3_copy_34 rfl ?_
  refine x_getR dX3_copy_35 gf_RX3_9 hd (tg_R3 hd) (hN _ _ (ne11_R hd)) ?_
  refine x_alen dX3_copy_38 (kd_R1 hd) ?_
  refine x_eqV (b := 63) (by rw [ln_R1 hd]; rfl) ?_
  refine x_acpy (0) (0) (63) dX3_copy_39 ml_RX3_27 na_acpy st_acpy ini_java_lang_System (kd_R1 hs) (kd_R1 hd) (by omega) (by omega) (by omega) (by rw [ln_R1 hs]; omega) (by rw [ln_R1 hd]; omega) ⟨Nat.le_of_ble_eq_true rfl, Nat.le_of_ble_eq_true rfl⟩ ?_
  refine x_aload_n dX3_copy_42 rfl ?_
  refine x_getR dX3_copy_43 gf_RX3_15 hs (tg_R4 hs) (hN _ _ (ne11_R hs)) ?_
  refine x_iconst dX3_copy_46 ?_
  refine x_aload_n dX3_copy_47 rfl ?_
  refine x_getR dX3_copy_48 gf_RX3_15 hd (tg_R4 hd) (hN _ _ (ne11_R hd)) ?_
  refine x_iconst dX3_copy_51 ?_
  refine x_iconst dX3_copy_52 ?_
  refine x_acpy (0) (0) (3) dX3_copy_53 ml_RX3_27 na_acpy st_acpy ini_java_lang_System (kd_R2 hs) (kd_R2 hd) (by omega) (by omega) (by omega) (by rw [ln_R2 hs]; omega) (by rw [ln_R2 hd]; omega) ⟨Nat.le_of_ble_eq_true rfl, Nat.le_of_ble_eq_true rfl⟩ ?_
  refine x_aload_n dX3_copy_56 rfl ?_
  refine x_getR dX3_copy_57 gf_RX3_18 hs (tg_R5 hs) (hN _ _ (ne11_R hs)) ?_
  refine x_iconst dX3_copy_60 ?_
  refine x_aload_n dX3_copy_61 rfl ?_
  refine x_getR dX3_copy_62 gf_RX3_18 hd (tg_R5 hd) (hN _ _ (ne11_R hd)) ?_
  refine x_iconst dX3_copy_65 ?_
  refine x_bipush dX3_copy_66 (by decide) ?_
  refine x_acpy (0) (0) (8) dX3_copy_68 ml_RX3_27 na_acpy st_acpy ini_java_lang_System (kd_R3 hs) (kd_R3 hd) (by omega) (by omega) (by omega) (by rw [ln_R3 hs]; omega) (by rw [ln_R3 hd]; omega) ⟨Nat.le_of_ble_eq_true rfl, Nat.le_of_ble_eq_true rfl⟩ ?_
  refine x_aload_n dX3_copy_71 rfl ?_
  refine x_getR dX3_copy_72 gf_RX3_21 hs (tg_R6 hs) (hN _ _ (ne11_R hs)) ?_
  refine x_iconst dX3_copy_75 ?_
  refine x_aload_n dX3_copy_76 rfl ?_
  refine x_getR dX3_copy_77 gf_RX3_21 hd (tg_R6 hd) (hN _ _ (ne11_R hd)) ?_
  refine x_iconst dX3_copy_80 ?_
  refine x_bipush dX3_copy_81 (by decide) ?_
  refine x_acpy (0) (0) (8) dX3_copy_83 ml_RX3_27 na_acpy st_acpy ini_java_lang_System (kd_R4 hs) (kd_R4 hd) (by omega) (by omega) (by omega) (by rw [ln_R4 hs]; omega) (by rw [ln_R4 hd]; omega) ⟨Nat.le_of_ble_eq_true rfl, Nat.le_of_ble_eq_true rfl⟩ ?_
  refine hret _ _ _ _ _ dX3_copy_86 ?_
  exact ⟨rfl, rfl, cpR_st hap⟩
theorem sp_begin (hb : kd b = 3) (hN : NS N) {n : Int} : SpV G mX3_begin 1 26 0 0 [.ref b, vi n] K N I (qV K N (beJ I b n)) := by
  refine SpV.of (own := RX3) (cc := cX3_begin) (L := [some (.ref b), some (vi n), none]) (by decide) rfl rfl (Nat.le_of_ble_eq_true rfl) rfl (fun Fx hnm hret => ?_)
  have lp : ∀ (m : Nat) (f : Nat) (z : Int) (J : MM), f ≤ 9 → 9 < f + m → z = (f : Int) → J = beS I b n f → XX G RX3 cX3_begin (RmW 1 26 0 0) Fx 17 [some (.ref b), some (vi n), some (vi z)] [] K N J 0 0 := by
    intro m
    induction m with
    | zero => intros; exfalso; omega
    | succ m ih =>
      intro f z J h0 h1 h2 h3
      refine x_iload_n dX3_begin_17 rfl ?_
      refine x_bipush dX3_begin_18 (by decide) ?_
      refine x_icmp_ge 46 dX3_begin_20 (by decide) (by unfold inr; omega) (by unfold inr; omega) (fun h_20 => ?_) (fun h_20 => ?_)
      · refine hret _ _ _ _ _ dX3_begin_46 ?_
        obtain rfl : f = 9 := by omega
        exact ⟨rfl, rfl, h3⟩
      · refine x_getsN (k := 1) dX3_begin_23 (by decide +kernel) (by decide) rfl ?_
        refine x_iconst dX3_begin_26 ?_
        refine x_aload_n dX3_begin_27 rfl ?_
        refine x_getR dX3_begin_28 gf_RX3_9 hb (tg_R3 hb) (hN _ _ (ne11_R hb)) ?_
        refine x_iload_n dX3_begin_31 rfl ?_
        refine x_bipush dX3_begin_32 (by decide) ?_
        refine x_imul dX3_begin_34 ?_
        refine x_bipush dX3_begin_35 (by decide) ?_
        refine x_acpyS (k := 1) (0) (7 * f) (7) dX3_begin_37 ml_RX3_27 na_acpy st_acpy ini_java_lang_System (by decide) rfl (kd_R1 hb) (by omega) (by omega) (by omega) (by decide) (by rw [ln_R1 hb]; omega) ⟨Nat.le_of_ble_eq_true rfl, Nat.le_of_ble_eq_true rfl⟩ ?_
        refine x_inc2 dX3_begin_40 ?_
        refine x_goto 17 dX3_begin_43 (by decide) ?_
        exact ih (f + 1) _ _ (by omega) (by omega) (by omega) (by rw [h3]; exact beS_st)
  refine x_aload_n dX3_begin_0 rfl ?_
  refine x_iload_n dX3_begin_1 rfl ?_
  refine x_putI dX3_begin_2 pf_RX3_37 hb (tg_R0 hb) ?_
  refine x_aload_n dX3_begin_5 rfl ?_
  refine x_iconst dX3_begin_6 ?_
  refine x_putI dX3_begin_7 pf_RX3_41 hb (tg_R1 hb) ?_
  refine x_aload_n dX3_begin_10 rfl ?_
  refine x_iconst dX3_begin_11 ?_
  refine x_putI dX3_begin_12 pf_RX3_44 hb (tg_R2 hb) ?_
  refine x_iconst dX3_begin_15 ?_
  refine x_ist2 dX3_begin_16 ?_
  exact lp 10 0 _ _ (by omega) (by omega) rfl (by
    funext a k
    simp only [up, beS]
    by_cases h1 : a = b
    · subst h1
      rcases (by omega : k = 0 ∨ k = 1 ∨ k = 2 ∨ 2 < k) with rfl | rfl | rfl | h
      · simp
      · simp
      · simp
      · have g0 : k ≠ 0 := by omega
        have g1 : k ≠ 1 := by omega
        have g2 : k ≠ 2 := by omega
        simp [g0, g1, g2]
    · simp [h1])
end FR

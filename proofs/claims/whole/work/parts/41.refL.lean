/-! ===== the reference: a day read ===== -/
def kkV (s : Int) : Int := if s = 46 then 0 else if s = 110 then 1 else if s = 42 then 2 else if s = 43 then 3 else -6
abbrev isD (s : Int) : Prop := s = 60 ∨ s = 62 ∨ s = 119
def mpV (a : Int) : Int := if a = 4 then 0 else if a = 5 then 60 else if a = 6 then 62 else if a = 7 then 119 else a
def mfV (a f : Int) : Int := if a ≤ 3 then -6 else f
/-- the reference's pad -/
def PM (I : MM) (d : Nat) : Prop := I 50 10 = (d : Int) ∧ d ≤ 60 ∧ ∀ j, j < d → 33 ≤ I 54 j ∧ I 54 j ≤ 126
def MPa (c : Nat → Int) (d n : Nat) (J : MM) (i K : Nat) : Prop := i = poV c d n K ∧ J 50 13 = (K : Int) ∧ (∀ j, j < K → poV c d n j < d ∧ atV c d n j ≠ -1) ∧ ∀ j, j < K → J 55 j = mpV (atV c d n j) ∧ J 56 j = mfV (atV c d n j) (ftV c d n j)
def MPb (c : Nat → Int) (d n : Nat) (J : MM) (i k : Nat) : Prop := i = poV c d n k + 1 ∧ ofF c n (poV c d n k) ∧ poV c d n k < d ∧ J 50 13 = (k : Int) + 1 ∧ (∀ j, j < k → poV c d n j < d ∧ atV c d n j ≠ -1) ∧ (∀ j, j < k → J 55 j = mpV (atV c d n j) ∧ J 56 j = mfV (atV c d n j) (ftV c d n j)) ∧ J 55 k = 0 ∧ J 56 k = c (poV c d n k) - 65
theorem kk_b {s : Int} : (0 ≤ kkV s → hoV s = kkV s ∧ kkV s ≤ 3 ∧ (s = 46 ∨ s = 110 ∨ s = 42 ∨ s = 43)) ∧ (kkV s < 0 → hoV s = -1 ∧ kkV s = -6) := by
  unfold kkV hoV
  (repeat' split) <;> omega
theorem ac_h {c : Nat → Int} {d n p : Nat} (hn : n ≤ 9) (h : 0 ≤ kkV (c p)) : acV c d n p = kkV (c p) ∧ wiV c d n p = 1 ∧ kkV (c p) ≤ 3 := by
  obtain ⟨q1, q2, q3⟩ := kk_b.1 h
  have hf : ¬ ofF c n p := by rintro ⟨a, b⟩; omega
  unfold acV wiV
  rw [if_neg hf, if_neg (fun z => hf z.1)]
  exact ⟨q1, rfl, q2⟩
theorem ac_n {c : Nat → Int} {d n p : Nat} (h : kkV (c p) < 0) (hf : ¬ ofF c n p) : acV c d n p = -1 := by
  unfold acV
  rw [if_neg hf]
  exact (kk_b.2 h).1
theorem MPa.K60 {c : Nat → Int} {d n : Nat} {J : MM} {i K : Nat} (h : MPa c d n J i K) : K ≤ i := by
  rw [h.1]; exact poV_ge K
theorem MPa.hour {c : Nat → Int} {d n : Nat} {J J' : MM} {i K : Nat} (h : MPa c d n J i K) (hn : n ≤ 9) (hi : i < d) (hk : 0 ≤ kkV (c i)) (h1 : J' 50 13 = (K : Int) + 1) (h2 : J' 55 K = kkV (c i)) (h3 : J' 56 K = -6) (h4 : ∀ j, j < K → J' 55 j = J 55 j ∧ J' 56 j = J 56 j) : MPa c d n J' (i + 1) (K + 1) := by
  obtain ⟨a1, a2, a3, a4⟩ := h
  obtain ⟨q1, q2, q3⟩ := ac_h (d := d) hn hk
  have e : atV c d n K = kkV (c i) := by unfold atV; rw [← a1]; exact q1
  refine ⟨?_, by rw [h1]; rfl, fun j hj => ?_, fun j hj => ?_⟩
  · show i + 1 = poV c d n K + wiV c d n (poV c d n K)
    rw [← a1, q2]
  · rcases (by omega : j < K ∨ j = K) with z | rfl
    · exact a3 j z
    · exact ⟨by rw [← a1]; exact hi, by rw [e]; omega⟩
  · rcases (by omega : j < K ∨ j = K) with z | rfl
    · rw [(h4 j z).1, (h4 j z).2]; exact a4 j z
    · rw [e, h2, h3]
      unfold mpV mfV
      rw [if_neg (by omega), if_neg (by omega), if_neg (by omega), if_neg (by omega), if_pos (by omega)]
      exact ⟨rfl, rfl⟩
theorem MPa.farm {c : Nat → Int} {d n : Nat} {J J' : MM} {i K : Nat} (h : MPa c d n J i K) (hi : i < d) (hk : ofF c n i) (h1 : J' 50 13 = (K : Int) + 1) (h2 : J' 55 K = 0) (h3 : J' 56 K = c i - 65) (h4 : ∀ j, j < K → J' 55 j = J 55 j ∧ J' 56 j = J 56 j) : MPb c d n J' (i + 1) K := by
  obtain ⟨a1, a2, a3, a4⟩ := h
  refine ⟨by rw [a1], by rw [← a1]; exact hk, by rw [← a1]; exact hi, h1, a3, fun j hj => ?_, h2, by rw [← a1]; exact h3⟩
  rw [(h4 j hj).1, (h4 j hj).2]; exact a4 j hj
theorem MPb.fin {c : Nat → Int} {d n : Nat} {J J' : MM} {i k : Nat} {a : Int} (h : MPb c d n J i k) (ha : aoV c d (poV c d n k + 1) = a) (h4a : 4 ≤ a ∧ a ≤ 7) (h1 : J' 50 13 = (k : Int) + 1) (h2 : J' 55 k = mpV a) (h3 : J' 56 k = J 56 k) (h4 : ∀ j, j < k → J' 55 j = J 55 j ∧ J' 56 j = J 56 j) : MPa c d n J' (poV c d n k + (if a = 4 then 1 else 2)) (k + 1) := by
  obtain ⟨a1, a2, a3, a4, a5, a6, a7, a8⟩ := h
  have e : atV c d n k = a := by unfold atV acV; rw [if_pos a2]; exact ha
  have e2 : ftV c d n k = c (poV c d n k) - 65 := by unfold ftV frV; rw [if_pos a2]
  have e3 : wiV c d n (poV c d n k) = if a = 4 then 1 else 2 := by
    have e' : acV c d n (poV c d n k) = a := e
    unfold wiV
    rw [e']
    by_cases z : a = 4
    · rw [if_pos z, if_neg (fun y => y.2 z)]
    · rw [if_neg z, if_pos ⟨a2, z⟩]
  refine ⟨?_, by rw [h1]; rfl, fun j hj => ?_, fun j hj => ?_⟩
  · show _ = poV c d n k + wiV c d n (poV c d n k)
    rw [e3]
  · rcases (by omega : j < k ∨ j = k) with z | rfl
    · exact a5 j z
    · exact ⟨a3, by rw [e]; omega⟩
  · rcases (by omega : j < k ∨ j = k) with z | rfl
    · rw [(h4 j z).1, (h4 j z).2]; exact a6 j z
    · rw [e, e2, h2, h3, a8]
      refine ⟨rfl, ?_⟩
      unfold mfV
      rw [if_neg (by omega)]
theorem MPb.deed {c : Nat → Int} {d n : Nat} {J J' : MM} {i k : Nat} (h : MPb c d n J i k) (hi : i < d) (hd : isD (c i)) (h1 : J' 50 13 = (k : Int) + 1) (h2 : J' 55 k = c i) (h3 : J' 56 k = J 56 k) (h4 : ∀ j, j < k → J' 55 j = J 55 j ∧ J' 56 j = J 56 j) : MPa c d n J' (i + 1) (k + 1) := by
  have hp := h.1
  rcases hd with z | z | z
  · have := h.fin (a := 5) (by rw [← hp]; unfold aoV; rw [if_pos hi, if_pos z]) (by omega) h1 (by rw [h2, z]; rfl) h3 h4
    rw [if_neg (by decide)] at this
    rw [hp]; exact this
  · have := h.fin (a := 6) (by rw [← hp]; unfold aoV; rw [if_pos hi, if_neg (by omega), if_pos z]) (by omega) h1 (by rw [h2, z]; rfl) h3 h4
    rw [if_neg (by decide)] at this
    rw [hp]; exact this
  · have := h.fin (a := 7) (by rw [← hp]; unfold aoV; rw [if_pos hi, if_neg (by omega), if_neg (by omega), if_pos z]) (by omega) h1 (by rw [h2, z]; rfl) h3 h4
    rw [if_neg (by decide)] at this
    rw [hp]; exact this
theorem MPb.over {c : Nat → Int} {d n : Nat} {J : MM} {i k : Nat} (h : MPb c d n J i k) (hd : ¬ (i < d ∧ isD (c i))) : MPa c d n J i (k + 1) := by
  have hp := h.1
  have := h.fin (J' := J) (a := 4) (by
    rw [← hp]; unfold aoV
    by_cases z : i < d
    · rw [if_pos z, if_neg (fun y => hd ⟨z, Or.inl y⟩), if_neg (fun y => hd ⟨z, Or.inr (Or.inl y)⟩), if_neg (fun y => hd ⟨z, Or.inr (Or.inr y)⟩)]
    · rw [if_neg z]) (by omega) h.2.2.2.1 (by rw [h.2.2.2.2.2.2.1]; rfl) rfl (fun j _ => ⟨rfl, rfl⟩)
  rw [if_pos rfl] at this
  rw [hp]; exact this
/-- what a reading leaves -/
def kpF (I J : MM) : Prop := ∀ a b, ¬ (a = 50 ∧ b = 13) → a ≠ 55 → a ≠ 56 → J a b = I a b
theorem kpF.M {I J : MM} (h : kpF I J) : kpM I J := fun a b q => h a b (by unfold pcm at q; omega) (by unfold pcm at q; omega) (by unfold pcm at q; omega)
section FR
variable {G : GT} {K : List Nat} {N : NN} {I : MM} {n : Nat}
theorem sp_kindOf {s : Int} (hs : inr s) : SpI G mX5_kindOf .int 0 0 0 0 [vi s] K N I (qI K N I (kkV s)) := by
  refine SpI.of (own := RX5) (cc := cX5_kindOf) (L := [some (vi s)]) (by decide) rfl rfl (Nat.le_of_ble_eq_true rfl) rfl (fun Fx hnm hret => ?_)
  refine x_iload_n dX5_kindOf_0 rfl ?_
  refine x_bipush dX5_kindOf_1 (by decide) ?_
  refine x_icmp_ne 10 dX5_kindOf_3 (by decide) hs (by unfold inr; omega) (fun h_3 => ?_) (fun h_3 => ?_)
  · refine x_iload_n dX5_kindOf_10 rfl ?_
    refine x_bipush dX5_kindOf_11 (by decide) ?_
    refine x_icmp_ne 20 dX5_kindOf_13 (by decide) hs (by unfold inr; omega) (fun h_13 => ?_) (fun h_13 => ?_)
    · refine x_iload_n dX5_kindOf_20 rfl ?_
      refine x_bipush dX5_kindOf_21 (by decide) ?_
      refine x_icmp_ne 30 dX5_kindOf_23 (by decide) hs (by unfold inr; omega) (fun h_23 => ?_) (fun h_23 => ?_)
      · refine x_iload_n dX5_kindOf_30 rfl ?_
        refine x_bipush dX5_kindOf_31 (by decide) ?_
        refine x_icmp_ne 40 dX5_kindOf_33 (by decide) hs (by unfold inr; omega) (fun h_33 => ?_) (fun h_33 => ?_)
        · refine x_bipush dX5_kindOf_40 (by decide) ?_
          refine hret _ _ _ _ _ _ dX5_kindOf_42 rfl ?_
          refine ⟨rfl, rfl, rfl, ?_⟩
          unfold kkV
          (repeat (first | rw [if_pos (by omega)] | rw [if_neg (by omega)]))
        · refine x_iconst dX5_kindOf_36 ?_
          refine x_goto 42 dX5_kindOf_37 (by decide) ?_
          refine hret _ _ _ _ _ _ dX5_kindOf_42 rfl ?_
          refine ⟨rfl, rfl, rfl, ?_⟩
          unfold kkV
          (repeat (first | rw [if_pos (by omega)] | rw [if_neg (by omega)]))
      · refine x_iconst dX5_kindOf_26 ?_
        refine x_goto 42 dX5_kindOf_27 (by decide) ?_
        refine hret _ _ _ _ _ _ dX5_kindOf_42 rfl ?_
        refine ⟨rfl, rfl, rfl, ?_⟩
        unfold kkV
        (repeat (first | rw [if_pos (by omega)] | rw [if_neg (by omega)]))
    · refine x_iconst dX5_kindOf_16 ?_
      refine x_goto 42 dX5_kindOf_17 (by decide) ?_
      refine hret _ _ _ _ _ _ dX5_kindOf_42 rfl ?_
      refine ⟨rfl, rfl, rfl, ?_⟩
      unfold kkV
      (repeat (first | rw [if_pos (by omega)] | rw [if_neg (by omega)]))
  · refine x_iconst dX5_kindOf_6 ?_
    refine x_goto 42 dX5_kindOf_7 (by decide) ?_
    refine hret _ _ _ _ _ _ dX5_kindOf_42 rfl ?_
    refine ⟨rfl, rfl, rfl, ?_⟩
    unfold kkV
    (repeat (first | rw [if_pos (by omega)] | rw [if_neg (by omega)]))
theorem sp_isDeed {s : Int} (hs : inr s) : SpI G mX5_isDeed .boolean 0 0 0 0 [vi s] K N I (qI K N I (if isD s then 1 else 0)) := by
  refine SpI.of (own := RX5) (cc := cX5_isDeed) (L := [some (vi s)]) (by decide) rfl rfl (Nat.le_of_ble_eq_true rfl) rfl (fun Fx hnm hret => ?_)
  refine x_iload_n dX5_isDeed_0 rfl ?_
  refine x_bipush dX5_isDeed_1 (by decide) ?_
  refine x_icmp_eq 18 dX5_isDeed_3 (by decide) hs (by unfold inr; omega) (fun h_3 => ?_) (fun h_3 => ?_)
  · refine x_iconst dX5_isDeed_18 ?_
    refine x_goto 23 dX5_isDeed_19 (by decide) ?_
    refine hret _ _ _ _ _ _ dX5_isDeed_23 rfl ?_
    refine ⟨rfl, rfl, rfl, ?_⟩
    (repeat (first | rw [if_pos (by omega)] | rw [if_neg (by omega)]))
  · refine x_iload_n dX5_isDeed_6 rfl ?_
    refine x_bipush dX5_isDeed_7 (by decide) ?_
    refine x_icmp_eq 18 dX5_isDeed_9 (by decide) hs (by unfold inr; omega) (fun h_9 => ?_) (fun h_9 => ?_)
    · refine x_iconst dX5_isDeed_18 ?_
      refine x_goto 23 dX5_isDeed_19 (by decide) ?_
      refine hret _ _ _ _ _ _ dX5_isDeed_23 rfl ?_
      refine ⟨rfl, rfl, rfl, ?_⟩
      (repeat (first | rw [if_pos (by omega)] | rw [if_neg (by omega)]))
    · refine x_iload_n dX5_isDeed_12 rfl ?_
      refine x_bipush dX5_isDeed_13 (by decide) ?_
      refine x_icmp_ne 22 dX5_isDeed_15 (by decide) hs (by unfold inr; omega) (fun h_15 => ?_) (fun h_15 => ?_)
      · refine x_iconst dX5_isDeed_22 ?_
        refine hret _ _ _ _ _ _ dX5_isDeed_23 rfl ?_
        refine ⟨rfl, rfl, rfl, ?_⟩
        (repeat (first | rw [if_pos (by omega)] | rw [if_neg (by omega)]))
      · refine x_iconst dX5_isDeed_18 ?_
        refine x_goto 23 dX5_isDeed_19 (by decide) ?_
        refine hret _ _ _ _ _ _ dX5_isDeed_23 rfl ?_
        refine ⟨rfl, rfl, rfl, ?_⟩
        (repeat (first | rw [if_pos (by omega)] | rw [if_neg (by omega)]))
theorem sp_mfault (hN : NS N) (hB : RM I n) {d : Nat} (hP : PM I d) : SpI G mX5_fault .int 2 46 0 0 [.ref 50] K N I (pI K N (fun z J => ∃ k, PD (I 54) d n k z ∧ k ≤ 60 ∧ J 50 13 = (k : Int) ∧ (∀ j, j < k → J 55 j = mpV (atV (I 54) d n j) ∧ J 56 j = mfV (atV (I 54) d n j) (ftV (I 54) d n j)) ∧ kpF I J)) := by
  refine SpI.of (own := RX5) (cc := cX5_fault) (L := [some (.ref 50), none, none, none, none, none]) (by decide) rfl rfl (Nat.le_of_ble_eq_true rfl) rfl (fun Fx hnm hret => ?_)
  have hn9 := hB.2.2.1
  obtain ⟨hPd, hP60, hPb⟩ := hP
  have lp : ∀ (m : Nat) (i : Nat) (z b : Int) (J : MM), i ≤ d → d < i + m → z = (i : Int) → kpF I J → ((b = 0 ∧ ∃ k, MPa (I 54) d n J i k) ∨ (b = 1 ∧ ∃ k, MPb (I 54) d n J i k)) → XX G RX5 cX5_fault (RmW 2 46 0 0) Fx 9 [some (.ref 50), some (vi b), some (vi z), none, none, none] [] K N J 0 0 := by
    intro m
    induction m with
    | zero => intros; exfalso; omega
    | succ m ih =>
      intro i z b J h0 h1 h2 h3 h4
      have hJd : J 50 10 = (d : Int) := (h3 50 10 (by omega) (by omega) (by omega)).trans hPd
      have hJp : J 54 i = I 54 i := h3 54 i (by omega) (by omega) (by omega)
      have hJ0 : J 50 0 = (n : Int) := (h3 50 0 (by omega) (by omega) (by omega)).trans hB.1
      have bP : i < d → _ := hPb i
      have hb01 : b = 0 ∨ b = 1 := by rcases h4 with e | e <;> omega
      have hov : ¬ (b = 1 ∧ i < d ∧ isD (I 54 i)) → ∃ k, MPa (I 54) d n J i k := fun hd => by
        rcases h4 with ⟨e, k, hk⟩ | ⟨e, k, hk⟩
        · exact ⟨k, hk⟩
        · exact ⟨k + 1, hk.over (fun y => hd ⟨e, y⟩)⟩
      have hop : b = 1 → ∃ k, MPb (I 54) d n J i k := fun e => by
        rcases h4 with ⟨e2, k, hk⟩ | ⟨e2, k, hk⟩
        · exfalso; omega
        · exact ⟨k, hk⟩
      have l42d : i < d → b = 1 → isD (I 54 i) → XX G RX5 cX5_fault (RmW 2 46 0 0) Fx 42 [some (.ref 50), some (vi b), some (vi z), some (vi (I 54 i)), some (vi 1), none] [] K N J 0 0 := by
        intro hi hb hD
        obtain ⟨k, hk⟩ := hop hb
        have h13 := hk.2.2.2.1
        have hki : k < i := by rw [hk.1]; exact Nat.lt_succ_of_le (poV_ge k)
        refine x_iload dX5_fault_42 rfl ?_
        refine x_if_ne 65 dX5_fault_44 (by decide) (by unfold inr; omega) (fun h_44 => ?_) (fun h_44 => ?_)
        · refine x_iconst dX5_fault_65 ?_
          refine x_goto 70 dX5_fault_66 (by decide) ?_
          refine x_ist5 dX5_fault_70 ?_
          refine x_iload dX5_fault_72 rfl ?_
          refine x_if_ne 79 dX5_fault_74 (by decide) (by unfold inr; omega) (fun h_74 => ?_) (fun h_74 => ?_)
          · refine x_iload dX5_fault_79 rfl ?_
            refine x_if_eq 99 dX5_fault_81 (by decide) (by unfold inr; omega) (fun h_81 => ?_) (fun h_81 => ?_)
            · exfalso; omega
            · refine x_aload_n dX5_fault_84 rfl ?_
              refine x_getR (j := 55) dX5_fault_85 gf_RX5_22 rfl rfl (hN _ _ (by decide)) ?_
              refine x_aload_n dX5_fault_88 rfl ?_
              refine x_getI dX5_fault_89 gf_RX5_115 rfl rfl ?_
              rw [h13]
              refine x_iconst dX5_fault_92 ?_
              refine x_isub dX5_fault_93 ?_
              refine x_iload_n dX5_fault_94 rfl ?_
              refine x_iast (k) dX5_fault_95 rfl (by omega) (show _ < 60 by omega) ?_
              refine x_goto 158 dX5_fault_96 (by decide) ?_
              refine x_iload dX5_fault_158 rfl ?_
              refine x_if_ne 174 dX5_fault_160 (by decide) (by unfold inr; omega) (fun h_160 => ?_) (fun h_160 => ?_)
              · refine x_iconst dX5_fault_174 ?_
                refine x_ist1 dX5_fault_175 ?_
                refine x_inc2 dX5_fault_176 ?_
                refine x_goto 9 dX5_fault_179 (by decide) ?_
                refine x_dr3 (x_dr4 (x_dr5 (ih (i + 1) _ _ _ (by omega) (by omega) (by omega) (fun a b q1 q2 q3 => ?_) (Or.inl ⟨rfl, k + 1, ?_⟩))))
                · rw [up_n1 q2]; exact h3 a b q1 q2 q3
                · exact hk.deed hi hD (by rw [up_n1 (by omega)]; exact h13) up_s (by rw [up_n1 (by omega)]) (fun j hj => ⟨by rw [up_n2 (by omega)], by rw [up_n1 (by omega)]⟩)
              · exfalso; omega
          · exfalso; omega
        · exfalso; omega
      have l42n : i < d → (∃ k, MPa (I 54) d n J i k) → XX G RX5 cX5_fault (RmW 2 46 0 0) Fx 42 [some (.ref 50), some (vi b), some (vi z), some (vi (I 54 i)), some (vi 0), none] [] K N J 0 0 := by
        rintro hi ⟨k, hk⟩
        have h13 := hk.2.1
        have hki : k ≤ i := hk.K60
        have bP2 := bP hi
        have kb := kk_b (s := I 54 i)
        refine x_iload dX5_fault_42 rfl ?_
        refine x_if_ne 65 dX5_fault_44 (by decide) (by unfold inr; omega) (fun h_44 => ?_) (fun h_44 => ?_)
        · exfalso; omega
        · refine x_iload_n dX5_fault_47 rfl ?_
          refine xf_SI1 dX5_fault_48 ml_RX5_121 vw_X5_kindOf st_X5_kindOf (sp_kindOf (by unfold inr; omega)) ⟨Nat.le_of_ble_eq_true rfl, Nat.le_of_ble_eq_true rfl, Nat.le_of_ble_eq_true rfl, Nat.le_of_ble_eq_true rfl, Nat.le_of_ble_eq_true rfl⟩ ?_
          refine x_if_ge 65 dX5_fault_51 (by decide) (by unfold inr; omega) (fun h_51 => ?_) (fun h_51 => ?_)
          · refine x_iconst dX5_fault_65 ?_
            refine x_goto 70 dX5_fault_66 (by decide) ?_
            refine x_ist5 dX5_fault_70 ?_
            refine x_iload dX5_fault_72 rfl ?_
            refine x_if_ne 79 dX5_fault_74 (by decide) (by unfold inr; omega) (fun h_74 => ?_) (fun h_74 => ?_)
            · refine x_iload dX5_fault_79 rfl ?_
              refine x_if_eq 99 dX5_fault_81 (by decide) (by unfold inr; omega) (fun h_81 => ?_) (fun h_81 => ?_)
              · refine x_aload_n dX5_fault_99 rfl ?_
                refine x_getR (j := 56) dX5_fault_100 gf_RX5_25 rfl rfl (hN _ _ (by decide)) ?_
                refine x_aload_n dX5_fault_103 rfl ?_
                refine x_getI dX5_fault_104 gf_RX5_115 rfl rfl ?_
                rw [h13]
                refine x_iload_n dX5_fault_107 rfl ?_
                refine xf_SI1 dX5_fault_108 ml_RX5_121 vw_X5_kindOf st_X5_kindOf (sp_kindOf (by unfold inr; omega)) ⟨Nat.le_of_ble_eq_true rfl, Nat.le_of_ble_eq_true rfl, Nat.le_of_ble_eq_true rfl, Nat.le_of_ble_eq_true rfl, Nat.le_of_ble_eq_true rfl⟩ ?_
                refine x_if_lt 119 dX5_fault_111 (by decide) (by unfold inr; omega) (fun h_111 => ?_) (fun h_111 => ?_)
                · refine x_iload_n dX5_fault_119 rfl ?_
                  refine x_bipush dX5_fault_120 (by decide) ?_
                  refine x_isub dX5_fault_122 ?_
                  refine x_iast (k) dX5_fault_123 rfl (by omega) (show _ < 60 by omega) ?_
                  refine x_aload_n dX5_fault_124 rfl ?_
                  refine x_getR (j := 55) dX5_fault_125 gf_RX5_22 rfl rfl (hN _ _ (by decide)) ?_
                  refine x_aload_n dX5_fault_128 rfl ?_
                  refine x_getI dX5_fault_129 gf_RX5_115 rfl rfl ?_
                  rw [up_n1 (by omega), h13]
                  refine x_iload_n dX5_fault_132 rfl ?_
                  refine xf_SI1 dX5_fault_133 ml_RX5_121 vw_X5_kindOf st_X5_kindOf (sp_kindOf (by unfold inr; omega)) ⟨Nat.le_of_ble_eq_true rfl, Nat.le_of_ble_eq_true rfl, Nat.le_of_ble_eq_true rfl, Nat.le_of_ble_eq_true rfl, Nat.le_of_ble_eq_true rfl⟩ ?_
                  refine x_if_lt 146 dX5_fault_136 (by decide) (by unfold inr; omega) (fun h_136 => ?_) (fun h_136 => ?_)
                  · refine x_iconst dX5_fault_146 ?_
                    refine x_iast (k) dX5_fault_147 rfl (by omega) (show _ < 60 by omega) ?_
                    refine x_aload_n dX5_fault_148 rfl ?_
                    refine x_dupR dX5_fault_149 ?_
                    refine x_getI dX5_fault_150 gf_RX5_115 rfl rfl ?_
                    rw [up_n1 (by omega), up_n1 (by omega), h13]
                    refine x_iconst dX5_fault_153 ?_
                    refine x_iadd dX5_fault_154 ?_
                    refine x_putI dX5_fault_155 pf_RX5_115 rfl rfl ?_
                    refine x_iload dX5_fault_158 rfl ?_
                    refine x_if_ne 174 dX5_fault_160 (by decide) (by unfold inr; omega) (fun h_160 => ?_) (fun h_160 => ?_)
                    · exfalso; omega
                    · refine x_iload_n dX5_fault_163 rfl ?_
                      refine xf_SI1 dX5_fault_164 ml_RX5_121 vw_X5_kindOf st_X5_kindOf (sp_kindOf (by unfold inr; omega)) ⟨Nat.le_of_ble_eq_true rfl, Nat.le_of_ble_eq_true rfl, Nat.le_of_ble_eq_true rfl, Nat.le_of_ble_eq_true rfl, Nat.le_of_ble_eq_true rfl⟩ ?_
                      refine x_if_ge 174 dX5_fault_167 (by decide) (by unfold inr; omega) (fun h_167 => ?_) (fun h_167 => ?_)
                      · refine x_iconst dX5_fault_174 ?_
                        refine x_ist1 dX5_fault_175 ?_
                        refine x_inc2 dX5_fault_176 ?_
                        refine x_goto 9 dX5_fault_179 (by decide) ?_
                        first
                        | (exfalso; omega)
                        | (refine x_dr3 (x_dr4 (x_dr5 (ih (i + 1) _ _ _ (by omega) (by omega) (by omega) (fun a b q1 q2 q3 => ?_) (Or.inl ⟨rfl, k + 1, ?_⟩))))
                           · rw [up_n q1, up_n1 q2, up_n1 q3]; exact h3 a b q1 q2 q3
                           · exact hk.hour hn9 hi (by omega) up_s (by rw [up_n1 (by omega), up_s]) (by rw [up_n1 (by omega), up_n1 (by omega), up_s]) (fun j hj => ⟨by rw [up_n1 (by omega), up_n2 (by omega), up_n1 (by omega)], by rw [up_n1 (by omega), up_n1 (by omega), up_n2 (by omega)]⟩)
                           done)
                        | (refine x_dr3 (x_dr4 (x_dr5 (ih (i + 1) _ _ _ (by omega) (by omega) (by omega) (fun a b q1 q2 q3 => ?_) (Or.inr ⟨rfl, k, ?_⟩))))
                           · rw [up_n q1, up_n1 q2, up_n1 q3]; exact h3 a b q1 q2 q3
                           · exact hk.farm hi ⟨by omega, by omega⟩ up_s (by rw [up_n1 (by omega), up_s]) (by rw [up_n1 (by omega), up_n1 (by omega), up_s]) (fun j hj => ⟨by rw [up_n1 (by omega), up_n2 (by omega), up_n1 (by omega)], by rw [up_n1 (by omega), up_n1 (by omega), up_n2 (by omega)]⟩))
                      · refine x_iconst dX5_fault_170 ?_
                        refine x_goto 175 dX5_fault_171 (by decide) ?_
                        refine x_ist1 dX5_fault_175 ?_
                        refine x_inc2 dX5_fault_176 ?_
                        refine x_goto 9 dX5_fault_179 (by decide) ?_
                        first
                        | (exfalso; omega)
                        | (refine x_dr3 (x_dr4 (x_dr5 (ih (i + 1) _ _ _ (by omega) (by omega) (by omega) (fun a b q1 q2 q3 => ?_) (Or.inl ⟨rfl, k + 1, ?_⟩))))
                           · rw [up_n q1, up_n1 q2, up_n1 q3]; exact h3 a b q1 q2 q3
                           · exact hk.hour hn9 hi (by omega) up_s (by rw [up_n1 (by omega), up_s]) (by rw [up_n1 (by omega), up_n1 (by omega), up_s]) (fun j hj => ⟨by rw [up_n1 (by omega), up_n2 (by omega), up_n1 (by omega)], by rw [up_n1 (by omega), up_n1 (by omega), up_n2 (by omega)]⟩)
                           done)
                        | (refine x_dr3 (x_dr4 (x_dr5 (ih (i + 1) _ _ _ (by omega) (by omega) (by omega) (fun a b q1 q2 q3 => ?_) (Or.inr ⟨rfl, k, ?_⟩))))
                           · rw [up_n q1, up_n1 q2, up_n1 q3]; exact h3 a b q1 q2 q3
                           · exact hk.farm hi ⟨by omega, by omega⟩ up_s (by rw [up_n1 (by omega), up_s]) (by rw [up_n1 (by omega), up_n1 (by omega), up_s]) (fun j hj => ⟨by rw [up_n1 (by omega), up_n2 (by omega), up_n1 (by omega)], by rw [up_n1 (by omega), up_n1 (by omega), up_n2 (by omega)]⟩))
                  · refine x_iload_n dX5_fault_139 rfl ?_
                    refine xf_SI1 dX5_fault_140 ml_RX5_121 vw_X5_kindOf st_X5_kindOf (sp_kindOf (by unfold inr; omega)) ⟨Nat.le_of_ble_eq_true rfl, Nat.le_of_ble_eq_true rfl, Nat.le_of_ble_eq_true rfl, Nat.le_of_ble_eq_true rfl, Nat.le_of_ble_eq_true rfl⟩ ?_
                    refine x_goto 147 dX5_fault_143 (by decide) ?_
                    refine x_iast (k) dX5_fault_147 rfl (by omega) (show _ < 60 by omega) ?_
                    refine x_aload_n dX5_fault_148 rfl ?_
                    refine x_dupR dX5_fault_149 ?_
                    refine x_getI dX5_fault_150 gf_RX5_115 rfl rfl ?_
                    rw [up_n1 (by omega), up_n1 (by omega), h13]
                    refine x_iconst dX5_fault_153 ?_
                    refine x_iadd dX5_fault_154 ?_
                    refine x_putI dX5_fault_155 pf_RX5_115 rfl rfl ?_
                    refine x_iload dX5_fault_158 rfl ?_
                    refine x_if_ne 174 dX5_fault_160 (by decide) (by unfold inr; omega) (fun h_160 => ?_) (fun h_160 => ?_)
                    · exfalso; omega
                    · refine x_iload_n dX5_fault_163 rfl ?_
                      refine xf_SI1 dX5_fault_164 ml_RX5_121 vw_X5_kindOf st_X5_kindOf (sp_kindOf (by unfold inr; omega)) ⟨Nat.le_of_ble_eq_true rfl, Nat.le_of_ble_eq_true rfl, Nat.le_of_ble_eq_true rfl, Nat.le_of_ble_eq_true rfl, Nat.le_of_ble_eq_true rfl⟩ ?_
                      refine x_if_ge 174 dX5_fault_167 (by decide) (by unfold inr; omega) (fun h_167 => ?_) (fun h_167 => ?_)
                      · refine x_iconst dX5_fault_174 ?_
                        refine x_ist1 dX5_fault_175 ?_
                        refine x_inc2 dX5_fault_176 ?_
                        refine x_goto 9 dX5_fault_179 (by decide) ?_
                        first
                        | (exfalso; omega)
                        | (refine x_dr3 (x_dr4 (x_dr5 (ih (i + 1) _ _ _ (by omega) (by omega) (by omega) (fun a b q1 q2 q3 => ?_) (Or.inl ⟨rfl, k + 1, ?_⟩))))
                           · rw [up_n q1, up_n1 q2, up_n1 q3]; exact h3 a b q1 q2 q3
                           · exact hk.hour hn9 hi (by omega) up_s (by rw [up_n1 (by omega), up_s]) (by rw [up_n1 (by omega), up_n1 (by omega), up_s]) (fun j hj => ⟨by rw [up_n1 (by omega), up_n2 (by omega), up_n1 (by omega)], by rw [up_n1 (by omega), up_n1 (by omega), up_n2 (by omega)]⟩)
                           done)
                        | (refine x_dr3 (x_dr4 (x_dr5 (ih (i + 1) _ _ _ (by omega) (by omega) (by omega) (fun a b q1 q2 q3 => ?_) (Or.inr ⟨rfl, k, ?_⟩))))
                           · rw [up_n q1, up_n1 q2, up_n1 q3]; exact h3 a b q1 q2 q3
                           · exact hk.farm hi ⟨by omega, by omega⟩ up_s (by rw [up_n1 (by omega), up_s]) (by rw [up_n1 (by omega), up_n1 (by omega), up_s]) (fun j hj => ⟨by rw [up_n1 (by omega), up_n2 (by omega), up_n1 (by omega)], by rw [up_n1 (by omega), up_n1 (by omega), up_n2 (by omega)]⟩))
                      · refine x_iconst dX5_fault_170 ?_
                        refine x_goto 175 dX5_fault_171 (by decide) ?_
                        refine x_ist1 dX5_fault_175 ?_
                        refine x_inc2 dX5_fault_176 ?_
                        refine x_goto 9 dX5_fault_179 (by decide) ?_
                        first
                        | (exfalso; omega)
                        | (refine x_dr3 (x_dr4 (x_dr5 (ih (i + 1) _ _ _ (by omega) (by omega) (by omega) (fun a b q1 q2 q3 => ?_) (Or.inl ⟨rfl, k + 1, ?_⟩))))
                           · rw [up_n q1, up_n1 q2, up_n1 q3]; exact h3 a b q1 q2 q3
                           · exact hk.hour hn9 hi (by omega) up_s (by rw [up_n1 (by omega), up_s]) (by rw [up_n1 (by omega), up_n1 (by omega), up_s]) (fun j hj => ⟨by rw [up_n1 (by omega), up_n2 (by omega), up_n1 (by omega)], by rw [up_n1 (by omega), up_n1 (by omega), up_n2 (by omega)]⟩)
                           done)
                        | (refine x_dr3 (x_dr4 (x_dr5 (ih (i + 1) _ _ _ (by omega) (by omega) (by omega) (fun a b q1 q2 q3 => ?_) (Or.inr ⟨rfl, k, ?_⟩))))
                           · rw [up_n q1, up_n1 q2, up_n1 q3]; exact h3 a b q1 q2 q3
                           · exact hk.farm hi ⟨by omega, by omega⟩ up_s (by rw [up_n1 (by omega), up_s]) (by rw [up_n1 (by omega), up_n1 (by omega), up_s]) (fun j hj => ⟨by rw [up_n1 (by omega), up_n2 (by omega), up_n1 (by omega)], by rw [up_n1 (by omega), up_n1 (by omega), up_n2 (by omega)]⟩))
                · refine x_bipush dX5_fault_114 (by decide) ?_
                  refine x_goto 123 dX5_fault_116 (by decide) ?_
                  refine x_iast (k) dX5_fault_123 rfl (by omega) (show _ < 60 by omega) ?_
                  refine x_aload_n dX5_fault_124 rfl ?_
                  refine x_getR (j := 55) dX5_fault_125 gf_RX5_22 rfl rfl (hN _ _ (by decide)) ?_
                  refine x_aload_n dX5_fault_128 rfl ?_
                  refine x_getI dX5_fault_129 gf_RX5_115 rfl rfl ?_
                  rw [up_n1 (by omega), h13]
                  refine x_iload_n dX5_fault_132 rfl ?_
                  refine xf_SI1 dX5_fault_133 ml_RX5_121 vw_X5_kindOf st_X5_kindOf (sp_kindOf (by unfold inr; omega)) ⟨Nat.le_of_ble_eq_true rfl, Nat.le_of_ble_eq_true rfl, Nat.le_of_ble_eq_true rfl, Nat.le_of_ble_eq_true rfl, Nat.le_of_ble_eq_true rfl⟩ ?_
                  refine x_if_lt 146 dX5_fault_136 (by decide) (by unfold inr; omega) (fun h_136 => ?_) (fun h_136 => ?_)
                  · refine x_iconst dX5_fault_146 ?_
                    refine x_iast (k) dX5_fault_147 rfl (by omega) (show _ < 60 by omega) ?_
                    refine x_aload_n dX5_fault_148 rfl ?_
                    refine x_dupR dX5_fault_149 ?_
                    refine x_getI dX5_fault_150 gf_RX5_115 rfl rfl ?_
                    rw [up_n1 (by omega), up_n1 (by omega), h13]
                    refine x_iconst dX5_fault_153 ?_
                    refine x_iadd dX5_fault_154 ?_
                    refine x_putI dX5_fault_155 pf_RX5_115 rfl rfl ?_
                    refine x_iload dX5_fault_158 rfl ?_
                    refine x_if_ne 174 dX5_fault_160 (by decide) (by unfold inr; omega) (fun h_160 => ?_) (fun h_160 => ?_)
                    · exfalso; omega
                    · refine x_iload_n dX5_fault_163 rfl ?_
                      refine xf_SI1 dX5_fault_164 ml_RX5_121 vw_X5_kindOf st_X5_kindOf (sp_kindOf (by unfold inr; omega)) ⟨Nat.le_of_ble_eq_true rfl, Nat.le_of_ble_eq_true rfl, Nat.le_of_ble_eq_true rfl, Nat.le_of_ble_eq_true rfl, Nat.le_of_ble_eq_true rfl⟩ ?_
                      refine x_if_ge 174 dX5_fault_167 (by decide) (by unfold inr; omega) (fun h_167 => ?_) (fun h_167 => ?_)
                      · refine x_iconst dX5_fault_174 ?_
                        refine x_ist1 dX5_fault_175 ?_
                        refine x_inc2 dX5_fault_176 ?_
                        refine x_goto 9 dX5_fault_179 (by decide) ?_
                        first
                        | (exfalso; omega)
                        | (refine x_dr3 (x_dr4 (x_dr5 (ih (i + 1) _ _ _ (by omega) (by omega) (by omega) (fun a b q1 q2 q3 => ?_) (Or.inl ⟨rfl, k + 1, ?_⟩))))
                           · rw [up_n q1, up_n1 q2, up_n1 q3]; exact h3 a b q1 q2 q3
                           · exact hk.hour hn9 hi (by omega) up_s (by rw [up_n1 (by omega), up_s]) (by rw [up_n1 (by omega), up_n1 (by omega), up_s]) (fun j hj => ⟨by rw [up_n1 (by omega), up_n2 (by omega), up_n1 (by omega)], by rw [up_n1 (by omega), up_n1 (by omega), up_n2 (by omega)]⟩)
                           done)
                        | (refine x_dr3 (x_dr4 (x_dr5 (ih (i + 1) _ _ _ (by omega) (by omega) (by omega) (fun a b q1 q2 q3 => ?_) (Or.inr ⟨rfl, k, ?_⟩))))
                           · rw [up_n q1, up_n1 q2, up_n1 q3]; exact h3 a b q1 q2 q3
                           · exact hk.farm hi ⟨by omega, by omega⟩ up_s (by rw [up_n1 (by omega), up_s]) (by rw [up_n1 (by omega), up_n1 (by omega), up_s]) (fun j hj => ⟨by rw [up_n1 (by omega), up_n2 (by omega), up_n1 (by omega)], by rw [up_n1 (by omega), up_n1 (by omega), up_n2 (by omega)]⟩))
                      · refine x_iconst dX5_fault_170 ?_
                        refine x_goto 175 dX5_fault_171 (by decide) ?_
                        refine x_ist1 dX5_fault_175 ?_
                        refine x_inc2 dX5_fault_176 ?_
                        refine x_goto 9 dX5_fault_179 (by decide) ?_
                        first
                        | (exfalso; omega)
                        | (refine x_dr3 (x_dr4 (x_dr5 (ih (i + 1) _ _ _ (by omega) (by omega) (by omega) (fun a b q1 q2 q3 => ?_) (Or.inl ⟨rfl, k + 1, ?_⟩))))
                           · rw [up_n q1, up_n1 q2, up_n1 q3]; exact h3 a b q1 q2 q3
                           · exact hk.hour hn9 hi (by omega) up_s (by rw [up_n1 (by omega), up_s]) (by rw [up_n1 (by omega), up_n1 (by omega), up_s]) (fun j hj => ⟨by rw [up_n1 (by omega), up_n2 (by omega), up_n1 (by omega)], by rw [up_n1 (by omega), up_n1 (by omega), up_n2 (by omega)]⟩)
                           done)
                        | (refine x_dr3 (x_dr4 (x_dr5 (ih (i + 1) _ _ _ (by omega) (by omega) (by omega) (fun a b q1 q2 q3 => ?_) (Or.inr ⟨rfl, k, ?_⟩))))
                           · rw [up_n q1, up_n1 q2, up_n1 q3]; exact h3 a b q1 q2 q3
                           · exact hk.farm hi ⟨by omega, by omega⟩ up_s (by rw [up_n1 (by omega), up_s]) (by rw [up_n1 (by omega), up_n1 (by omega), up_s]) (fun j hj => ⟨by rw [up_n1 (by omega), up_n2 (by omega), up_n1 (by omega)], by rw [up_n1 (by omega), up_n1 (by omega), up_n2 (by omega)]⟩))
                  · refine x_iload_n dX5_fault_139 rfl ?_
                    refine xf_SI1 dX5_fault_140 ml_RX5_121 vw_X5_kindOf st_X5_kindOf (sp_kindOf (by unfold inr; omega)) ⟨Nat.le_of_ble_eq_true rfl, Nat.le_of_ble_eq_true rfl, Nat.le_of_ble_eq_true rfl, Nat.le_of_ble_eq_true rfl, Nat.le_of_ble_eq_true rfl⟩ ?_
                    refine x_goto 147 dX5_fault_143 (by decide) ?_
                    refine x_iast (k) dX5_fault_147 rfl (by omega) (show _ < 60 by omega) ?_
                    refine x_aload_n dX5_fault_148 rfl ?_
                    refine x_dupR dX5_fault_149 ?_
                    refine x_getI dX5_fault_150 gf_RX5_115 rfl rfl ?_
                    rw [up_n1 (by omega), up_n1 (by omega), h13]
                    refine x_iconst dX5_fault_153 ?_
                    refine x_iadd dX5_fault_154 ?_
                    refine x_putI dX5_fault_155 pf_RX5_115 rfl rfl ?_
                    refine x_iload dX5_fault_158 rfl ?_
                    refine x_if_ne 174 dX5_fault_160 (by decide) (by unfold inr; omega) (fun h_160 => ?_) (fun h_160 => ?_)
                    · exfalso; omega
                    · refine x_iload_n dX5_fault_163 rfl ?_
                      refine xf_SI1 dX5_fault_164 ml_RX5_121 vw_X5_kindOf st_X5_kindOf (sp_kindOf (by unfold inr; omega)) ⟨Nat.le_of_ble_eq_true rfl, Nat.le_of_ble_eq_true rfl, Nat.le_of_ble_eq_true rfl, Nat.le_of_ble_eq_true rfl, Nat.le_of_ble_eq_true rfl⟩ ?_
                      refine x_if_ge 174 dX5_fault_167 (by decide) (by unfold inr; omega) (fun h_167 => ?_) (fun h_167 => ?_)
                      · refine x_iconst dX5_fault_174 ?_
                        refine x_ist1 dX5_fault_175 ?_
                        refine x_inc2 dX5_fault_176 ?_
                        refine x_goto 9 dX5_fault_179 (by decide) ?_
                        first
                        | (exfalso; omega)
                        | (refine x_dr3 (x_dr4 (x_dr5 (ih (i + 1) _ _ _ (by omega) (by omega) (by omega) (fun a b q1 q2 q3 => ?_) (Or.inl ⟨rfl, k + 1, ?_⟩))))
                           · rw [up_n q1, up_n1 q2, up_n1 q3]; exact h3 a b q1 q2 q3
                           · exact hk.hour hn9 hi (by omega) up_s (by rw [up_n1 (by omega), up_s]) (by rw [up_n1 (by omega), up_n1 (by omega), up_s]) (fun j hj => ⟨by rw [up_n1 (by omega), up_n2 (by omega), up_n1 (by omega)], by rw [up_n1 (by omega), up_n1 (by omega), up_n2 (by omega)]⟩)
                           done)
                        | (refine x_dr3 (x_dr4 (x_dr5 (ih (i + 1) _ _ _ (by omega) (by omega) (by omega) (fun a b q1 q2 q3 => ?_) (Or.inr ⟨rfl, k, ?_⟩))))
                           · rw [up_n q1, up_n1 q2, up_n1 q3]; exact h3 a b q1 q2 q3
                           · exact hk.farm hi ⟨by omega, by omega⟩ up_s (by rw [up_n1 (by omega), up_s]) (by rw [up_n1 (by omega), up_n1 (by omega), up_s]) (fun j hj => ⟨by rw [up_n1 (by omega), up_n2 (by omega), up_n1 (by omega)], by rw [up_n1 (by omega), up_n1 (by omega), up_n2 (by omega)]⟩))
                      · refine x_iconst dX5_fault_170 ?_
                        refine x_goto 175 dX5_fault_171 (by decide) ?_
                        refine x_ist1 dX5_fault_175 ?_
                        refine x_inc2 dX5_fault_176 ?_
                        refine x_goto 9 dX5_fault_179 (by decide) ?_
                        first
                        | (exfalso; omega)
                        | (refine x_dr3 (x_dr4 (x_dr5 (ih (i + 1) _ _ _ (by omega) (by omega) (by omega) (fun a b q1 q2 q3 => ?_) (Or.inl ⟨rfl, k + 1, ?_⟩))))
                           · rw [up_n q1, up_n1 q2, up_n1 q3]; exact h3 a b q1 q2 q3
                           · exact hk.hour hn9 hi (by omega) up_s (by rw [up_n1 (by omega), up_s]) (by rw [up_n1 (by omega), up_n1 (by omega), up_s]) (fun j hj => ⟨by rw [up_n1 (by omega), up_n2 (by omega), up_n1 (by omega)], by rw [up_n1 (by omega), up_n1 (by omega), up_n2 (by omega)]⟩)
                           done)
                        | (refine x_dr3 (x_dr4 (x_dr5 (ih (i + 1) _ _ _ (by omega) (by omega) (by omega) (fun a b q1 q2 q3 => ?_) (Or.inr ⟨rfl, k, ?_⟩))))
                           · rw [up_n q1, up_n1 q2, up_n1 q3]; exact h3 a b q1 q2 q3
                           · exact hk.farm hi ⟨by omega, by omega⟩ up_s (by rw [up_n1 (by omega), up_s]) (by rw [up_n1 (by omega), up_n1 (by omega), up_s]) (fun j hj => ⟨by rw [up_n1 (by omega), up_n2 (by omega), up_n1 (by omega)], by rw [up_n1 (by omega), up_n1 (by omega), up_n2 (by omega)]⟩))
              · exfalso; omega
            · refine x_iload_n dX5_fault_77 rfl ?_
              refine hret _ _ _ _ _ _ dX5_fault_78 rfl ?_
              first
              | (exfalso; omega)
              | (refine ⟨rfl, rfl, k, ⟨hk.2.2.1, Or.inr ⟨?_, ?_, ?_⟩⟩, by omega, h13, hk.2.2.2, h3⟩
                 · rw [← hk.1]; exact h2
                 · rw [← hk.1]; exact hi
                 · show acV _ _ _ _ = -1
                   rw [← hk.1]
                   exact ac_n (by omega) (by rintro ⟨y1, y2⟩; omega))
          · refine x_aload_n dX5_fault_54 rfl ?_
            refine x_iload_n dX5_fault_55 rfl ?_
            refine x_bipush dX5_fault_56 (by decide) ?_
            refine x_isub dX5_fault_58 ?_
            refine xf_VI1 dX5_fault_59 ml_RX5_92 vw_X5_isFarm vv_X5_isFarm rfl (sp_isFarm hJ0 hn9 (by unfold inr; omega)) ⟨Nat.le_of_ble_eq_true rfl, Nat.le_of_ble_eq_true rfl, Nat.le_of_ble_eq_true rfl, Nat.le_of_ble_eq_true rfl, Nat.le_of_ble_eq_true rfl⟩ ?_
            refine x_if_eq 69 dX5_fault_62 (by decide) (by unfold inr; split <;> omega) (fun h_62 => ?_) (fun h_62 => ?_)
            · replace h_62 := b0 h_62
              refine x_iconst dX5_fault_69 ?_
              refine x_ist5 dX5_fault_70 ?_
              refine x_iload dX5_fault_72 rfl ?_
              refine x_if_ne 79 dX5_fault_74 (by decide) (by unfold inr; omega) (fun h_74 => ?_) (fun h_74 => ?_)
              · refine x_iload dX5_fault_79 rfl ?_
                refine x_if_eq 99 dX5_fault_81 (by decide) (by unfold inr; omega) (fun h_81 => ?_) (fun h_81 => ?_)
                · refine x_aload_n dX5_fault_99 rfl ?_
                  refine x_getR (j := 56) dX5_fault_100 gf_RX5_25 rfl rfl (hN _ _ (by decide)) ?_
                  refine x_aload_n dX5_fault_103 rfl ?_
                  refine x_getI dX5_fault_104 gf_RX5_115 rfl rfl ?_
                  rw [h13]
                  refine x_iload_n dX5_fault_107 rfl ?_
                  refine xf_SI1 dX5_fault_108 ml_RX5_121 vw_X5_kindOf st_X5_kindOf (sp_kindOf (by unfold inr; omega)) ⟨Nat.le_of_ble_eq_true rfl, Nat.le_of_ble_eq_true rfl, Nat.le_of_ble_eq_true rfl, Nat.le_of_ble_eq_true rfl, Nat.le_of_ble_eq_true rfl⟩ ?_
                  refine x_if_lt 119 dX5_fault_111 (by decide) (by unfold inr; omega) (fun h_111 => ?_) (fun h_111 => ?_)
                  · refine x_iload_n dX5_fault_119 rfl ?_
                    refine x_bipush dX5_fault_120 (by decide) ?_
                    refine x_isub dX5_fault_122 ?_
                    refine x_iast (k) dX5_fault_123 rfl (by omega) (show _ < 60 by omega) ?_
                    refine x_aload_n dX5_fault_124 rfl ?_
                    refine x_getR (j := 55) dX5_fault_125 gf_RX5_22 rfl rfl (hN _ _ (by decide)) ?_
                    refine x_aload_n dX5_fault_128 rfl ?_
                    refine x_getI dX5_fault_129 gf_RX5_115 rfl rfl ?_
                    rw [up_n1 (by omega), h13]
                    refine x_iload_n dX5_fault_132 rfl ?_
                    refine xf_SI1 dX5_fault_133 ml_RX5_121 vw_X5_kindOf st_X5_kindOf (sp_kindOf (by unfold inr; omega)) ⟨Nat.le_of_ble_eq_true rfl, Nat.le_of_ble_eq_true rfl, Nat.le_of_ble_eq_true rfl, Nat.le_of_ble_eq_true rfl, Nat.le_of_ble_eq_true rfl⟩ ?_
                    refine x_if_lt 146 dX5_fault_136 (by decide) (by unfold inr; omega) (fun h_136 => ?_) (fun h_136 => ?_)
                    · refine x_iconst dX5_fault_146 ?_
                      refine x_iast (k) dX5_fault_147 rfl (by omega) (show _ < 60 by omega) ?_
                      refine x_aload_n dX5_fault_148 rfl ?_
                      refine x_dupR dX5_fault_149 ?_
                      refine x_getI dX5_fault_150 gf_RX5_115 rfl rfl ?_
                      rw [up_n1 (by omega), up_n1 (by omega), h13]
                      refine x_iconst dX5_fault_153 ?_
                      refine x_iadd dX5_fault_154 ?_
                      refine x_putI dX5_fault_155 pf_RX5_115 rfl rfl ?_
                      refine x_iload dX5_fault_158 rfl ?_
                      refine x_if_ne 174 dX5_fault_160 (by decide) (by unfold inr; omega) (fun h_160 => ?_) (fun h_160 => ?_)
                      · exfalso; omega
                      · refine x_iload_n dX5_fault_163 rfl ?_
                        refine xf_SI1 dX5_fault_164 ml_RX5_121 vw_X5_kindOf st_X5_kindOf (sp_kindOf (by unfold inr; omega)) ⟨Nat.le_of_ble_eq_true rfl, Nat.le_of_ble_eq_true rfl, Nat.le_of_ble_eq_true rfl, Nat.le_of_ble_eq_true rfl, Nat.le_of_ble_eq_true rfl⟩ ?_
                        refine x_if_ge 174 dX5_fault_167 (by decide) (by unfold inr; omega) (fun h_167 => ?_) (fun h_167 => ?_)
                        · refine x_iconst dX5_fault_174 ?_
                          refine x_ist1 dX5_fault_175 ?_
                          refine x_inc2 dX5_fault_176 ?_
                          refine x_goto 9 dX5_fault_179 (by decide) ?_
                          first
                          | (exfalso; omega)
                          | (refine x_dr3 (x_dr4 (x_dr5 (ih (i + 1) _ _ _ (by omega) (by omega) (by omega) (fun a b q1 q2 q3 => ?_) (Or.inl ⟨rfl, k + 1, ?_⟩))))
                             · rw [up_n q1, up_n1 q2, up_n1 q3]; exact h3 a b q1 q2 q3
                             · exact hk.hour hn9 hi (by omega) up_s (by rw [up_n1 (by omega), up_s]) (by rw [up_n1 (by omega), up_n1 (by omega), up_s]) (fun j hj => ⟨by rw [up_n1 (by omega), up_n2 (by omega), up_n1 (by omega)], by rw [up_n1 (by omega), up_n1 (by omega), up_n2 (by omega)]⟩)
                             done)
                          | (refine x_dr3 (x_dr4 (x_dr5 (ih (i + 1) _ _ _ (by omega) (by omega) (by omega) (fun a b q1 q2 q3 => ?_) (Or.inr ⟨rfl, k, ?_⟩))))
                             · rw [up_n q1, up_n1 q2, up_n1 q3]; exact h3 a b q1 q2 q3
                             · exact hk.farm hi ⟨by omega, by omega⟩ up_s (by rw [up_n1 (by omega), up_s]) (by rw [up_n1 (by omega), up_n1 (by omega), up_s]) (fun j hj => ⟨by rw [up_n1 (by omega), up_n2 (by omega), up_n1 (by omega)], by rw [up_n1 (by omega), up_n1 (by omega), up_n2 (by omega)]⟩))
                        · refine x_iconst dX5_fault_170 ?_
                          refine x_goto 175 dX5_fault_171 (by decide) ?_
                          refine x_ist1 dX5_fault_175 ?_
                          refine x_inc2 dX5_fault_176 ?_
                          refine x_goto 9 dX5_fault_179 (by decide) ?_
                          first
                          | (exfalso; omega)
                          | (refine x_dr3 (x_dr4 (x_dr5 (ih (i + 1) _ _ _ (by omega) (by omega) (by omega) (fun a b q1 q2 q3 => ?_) (Or.inl ⟨rfl, k + 1, ?_⟩))))
                             · rw [up_n q1, up_n1 q2, up_n1 q3]; exact h3 a b q1 q2 q3
                             · exact hk.hour hn9 hi (by omega) up_s (by rw [up_n1 (by omega), up_s]) (by rw [up_n1 (by omega), up_n1 (by omega), up_s]) (fun j hj => ⟨by rw [up_n1 (by omega), up_n2 (by omega), up_n1 (by omega)], by rw [up_n1 (by omega), up_n1 (by omega), up_n2 (by omega)]⟩)
                             done)
                          | (refine x_dr3 (x_dr4 (x_dr5 (ih (i + 1) _ _ _ (by omega) (by omega) (by omega) (fun a b q1 q2 q3 => ?_) (Or.inr ⟨rfl, k, ?_⟩))))
                             · rw [up_n q1, up_n1 q2, up_n1 q3]; exact h3 a b q1 q2 q3
                             · exact hk.farm hi ⟨by omega, by omega⟩ up_s (by rw [up_n1 (by omega), up_s]) (by rw [up_n1 (by omega), up_n1 (by omega), up_s]) (fun j hj => ⟨by rw [up_n1 (by omega), up_n2 (by omega), up_n1 (by omega)], by rw [up_n1 (by omega), up_n1 (by omega), up_n2 (by omega)]⟩))
                    · refine x_iload_n dX5_fault_139 rfl ?_
                      refine xf_SI1 dX5_fault_140 ml_RX5_121 vw_X5_kindOf st_X5_kindOf (sp_kindOf (by unfold inr; omega)) ⟨Nat.le_of_ble_eq_true rfl, Nat.le_of_ble_eq_true rfl, Nat.le_of_ble_eq_true rfl, Nat.le_of_ble_eq_true rfl, Nat.le_of_ble_eq_true rfl⟩ ?_
                      refine x_goto 147 dX5_fault_143 (by decide) ?_
                      refine x_iast (k) dX5_fault_147 rfl (by omega) (show _ < 60 by omega) ?_
                      refine x_aload_n dX5_fault_148 rfl ?_
                      refine x_dupR dX5_fault_149 ?_
                      refine x_getI dX5_fault_150 gf_RX5_115 rfl rfl ?_
                      rw [up_n1 (by omega), up_n1 (by omega), h13]
                      refine x_iconst dX5_fault_153 ?_
                      refine x_iadd dX5_fault_154 ?_
                      refine x_putI dX5_fault_155 pf_RX5_115 rfl rfl ?_
                      refine x_iload dX5_fault_158 rfl ?_
                      refine x_if_ne 174 dX5_fault_160 (by decide) (by unfold inr; omega) (fun h_160 => ?_) (fun h_160 => ?_)
                      · exfalso; omega
                      · refine x_iload_n dX5_fault_163 rfl ?_
                        refine xf_SI1 dX5_fault_164 ml_RX5_121 vw_X5_kindOf st_X5_kindOf (sp_kindOf (by unfold inr; omega)) ⟨Nat.le_of_ble_eq_true rfl, Nat.le_of_ble_eq_true rfl, Nat.le_of_ble_eq_true rfl, Nat.le_of_ble_eq_true rfl, Nat.le_of_ble_eq_true rfl⟩ ?_
                        refine x_if_ge 174 dX5_fault_167 (by decide) (by unfold inr; omega) (fun h_167 => ?_) (fun h_167 => ?_)
                        · refine x_iconst dX5_fault_174 ?_
                          refine x_ist1 dX5_fault_175 ?_
                          refine x_inc2 dX5_fault_176 ?_
                          refine x_goto 9 dX5_fault_179 (by decide) ?_
                          first
                          | (exfalso; omega)
                          | (refine x_dr3 (x_dr4 (x_dr5 (ih (i + 1) _ _ _ (by omega) (by omega) (by omega) (fun a b q1 q2 q3 => ?_) (Or.inl ⟨rfl, k + 1, ?_⟩))))
                             · rw [up_n q1, up_n1 q2, up_n1 q3]; exact h3 a b q1 q2 q3
                             · exact hk.hour hn9 hi (by omega) up_s (by rw [up_n1 (by omega), up_s]) (by rw [up_n1 (by omega), up_n1 (by omega), up_s]) (fun j hj => ⟨by rw [up_n1 (by omega), up_n2 (by omega), up_n1 (by omega)], by rw [up_n1 (by omega), up_n1 (by omega), up_n2 (by omega)]⟩)
                             done)
                          | (refine x_dr3 (x_dr4 (x_dr5 (ih (i + 1) _ _ _ (by omega) (by omega) (by omega) (fun a b q1 q2 q3 => ?_) (Or.inr ⟨rfl, k, ?_⟩))))
                             · rw [up_n q1, up_n1 q2, up_n1 q3]; exact h3 a b q1 q2 q3
                             · exact hk.farm hi ⟨by omega, by omega⟩ up_s (by rw [up_n1 (by omega), up_s]) (by rw [up_n1 (by omega), up_n1 (by omega), up_s]) (fun j hj => ⟨by rw [up_n1 (by omega), up_n2 (by omega), up_n1 (by omega)], by rw [up_n1 (by omega), up_n1 (by omega), up_n2 (by omega)]⟩))
                        · refine x_iconst dX5_fault_170 ?_
                          refine x_goto 175 dX5_fault_171 (by decide) ?_
                          refine x_ist1 dX5_fault_175 ?_
                          refine x_inc2 dX5_fault_176 ?_
                          refine x_goto 9 dX5_fault_179 (by decide) ?_
                          first
                          | (exfalso; omega)
                          | (refine x_dr3 (x_dr4 (x_dr5 (ih (i + 1) _ _ _ (by omega) (by omega) (by omega) (fun a b q1 q2 q3 => ?_) (Or.inl ⟨rfl, k + 1, ?_⟩))))
                             · rw [up_n q1, up_n1 q2, up_n1 q3]; exact h3 a b q1 q2 q3
                             · exact hk.hour hn9 hi (by omega) up_s (by rw [up_n1 (by omega), up_s]) (by rw [up_n1 (by omega), up_n1 (by omega), up_s]) (fun j hj => ⟨by rw [up_n1 (by omega), up_n2 (by omega), up_n1 (by omega)], by rw [up_n1 (by omega), up_n1 (by omega), up_n2 (by omega)]⟩)
                             done)
                          | (refine x_dr3 (x_dr4 (x_dr5 (ih (i + 1) _ _ _ (by omega) (by omega) (by omega) (fun a b q1 q2 q3 => ?_) (Or.inr ⟨rfl, k, ?_⟩))))
                             · rw [up_n q1, up_n1 q2, up_n1 q3]; exact h3 a b q1 q2 q3
                             · exact hk.farm hi ⟨by omega, by omega⟩ up_s (by rw [up_n1 (by omega), up_s]) (by rw [up_n1 (by omega), up_n1 (by omega), up_s]) (fun j hj => ⟨by rw [up_n1 (by omega), up_n2 (by omega), up_n1 (by omega)], by rw [up_n1 (by omega), up_n1 (by omega), up_n2 (by omega)]⟩))
                  · refine x_bipush dX5_fault_114 (by decide) ?_
                    refine x_goto 123 dX5_fault_116 (by decide) ?_
                    refine x_iast (k) dX5_fault_123 rfl (by omega) (show _ < 60 by omega) ?_
                    refine x_aload_n dX5_fault_124 rfl ?_
                    refine x_getR (j := 55) dX5_fault_125 gf_RX5_22 rfl rfl (hN _ _ (by decide)) ?_
                    refine x_aload_n dX5_fault_128 rfl ?_
                    refine x_getI dX5_fault_129 gf_RX5_115 rfl rfl ?_
                    rw [up_n1 (by omega), h13]
                    refine x_iload_n dX5_fault_132 rfl ?_
                    refine xf_SI1 dX5_fault_133 ml_RX5_121 vw_X5_kindOf st_X5_kindOf (sp_kindOf (by unfold inr; omega)) ⟨Nat.le_of_ble_eq_true rfl, Nat.le_of_ble_eq_true rfl, Nat.le_of_ble_eq_true rfl, Nat.le_of_ble_eq_true rfl, Nat.le_of_ble_eq_true rfl⟩ ?_
                    refine x_if_lt 146 dX5_fault_136 (by decide) (by unfold inr; omega) (fun h_136 => ?_) (fun h_136 => ?_)
                    · refine x_iconst dX5_fault_146 ?_
                      refine x_iast (k) dX5_fault_147 rfl (by omega) (show _ < 60 by omega) ?_
                      refine x_aload_n dX5_fault_148 rfl ?_
                      refine x_dupR dX5_fault_149 ?_
                      refine x_getI dX5_fault_150 gf_RX5_115 rfl rfl ?_
                      rw [up_n1 (by omega), up_n1 (by omega), h13]
                      refine x_iconst dX5_fault_153 ?_
                      refine x_iadd dX5_fault_154 ?_
                      refine x_putI dX5_fault_155 pf_RX5_115 rfl rfl ?_
                      refine x_iload dX5_fault_158 rfl ?_
                      refine x_if_ne 174 dX5_fault_160 (by decide) (by unfold inr; omega) (fun h_160 => ?_) (fun h_160 => ?_)
                      · exfalso; omega
                      · refine x_iload_n dX5_fault_163 rfl ?_
                        refine xf_SI1 dX5_fault_164 ml_RX5_121 vw_X5_kindOf st_X5_kindOf (sp_kindOf (by unfold inr; omega)) ⟨Nat.le_of_ble_eq_true rfl, Nat.le_of_ble_eq_true rfl, Nat.le_of_ble_eq_true rfl, Nat.le_of_ble_eq_true rfl, Nat.le_of_ble_eq_true rfl⟩ ?_
                        refine x_if_ge 174 dX5_fault_167 (by decide) (by unfold inr; omega) (fun h_167 => ?_) (fun h_167 => ?_)
                        · refine x_iconst dX5_fault_174 ?_
                          refine x_ist1 dX5_fault_175 ?_
                          refine x_inc2 dX5_fault_176 ?_
                          refine x_goto 9 dX5_fault_179 (by decide) ?_
                          first
                          | (exfalso; omega)
                          | (refine x_dr3 (x_dr4 (x_dr5 (ih (i + 1) _ _ _ (by omega) (by omega) (by omega) (fun a b q1 q2 q3 => ?_) (Or.inl ⟨rfl, k + 1, ?_⟩))))
                             · rw [up_n q1, up_n1 q2, up_n1 q3]; exact h3 a b q1 q2 q3
                             · exact hk.hour hn9 hi (by omega) up_s (by rw [up_n1 (by omega), up_s]) (by rw [up_n1 (by omega), up_n1 (by omega), up_s]) (fun j hj => ⟨by rw [up_n1 (by omega), up_n2 (by omega), up_n1 (by omega)], by rw [up_n1 (by omega), up_n1 (by omega), up_n2 (by omega)]⟩)
                             done)
                          | (refine x_dr3 (x_dr4 (x_dr5 (ih (i + 1) _ _ _ (by omega) (by omega) (by omega) (fun a b q1 q2 q3 => ?_) (Or.inr ⟨rfl, k, ?_⟩))))
                             · rw [up_n q1, up_n1 q2, up_n1 q3]; exact h3 a b q1 q2 q3
                             · exact hk.farm hi ⟨by omega, by omega⟩ up_s (by rw [up_n1 (by omega), up_s]) (by rw [up_n1 (by omega), up_n1 (by omega), up_s]) (fun j hj => ⟨by rw [up_n1 (by omega), up_n2 (by omega), up_n1 (by omega)], by rw [up_n1 (by omega), up_n1 (by omega), up_n2 (by omega)]⟩))
                        · refine x_iconst dX5_fault_170 ?_
                          refine x_goto 175 dX5_fault_171 (by decide) ?_
                          refine x_ist1 dX5_fault_175 ?_
                          refine x_inc2 dX5_fault_176 ?_
                          refine x_goto 9 dX5_fault_179 (by decide) ?_
                          first
                          | (exfalso; omega)
                          | (refine x_dr3 (x_dr4 (x_dr5 (ih (i + 1) _ _ _ (by omega) (by omega) (by omega) (fun a b q1 q2 q3 => ?_) (Or.inl ⟨rfl, k + 1, ?_⟩))))
                             · rw [up_n q1, up_n1 q2, up_n1 q3]; exact h3 a b q1 q2 q3
                             · exact hk.hour hn9 hi (by omega) up_s (by rw [up_n1 (by omega), up_s]) (by rw [up_n1 (by omega), up_n1 (by omega), up_s]) (fun j hj => ⟨by rw [up_n1 (by omega), up_n2 (by omega), up_n1 (by omega)], by rw [up_n1 (by omega), up_n1 (by omega), up_n2 (by omega)]⟩)
                             done)
                          | (refine x_dr3 (x_dr4 (x_dr5 (ih (i + 1) _ _ _ (by omega) (by omega) (by omega) (fun a b q1 q2 q3 => ?_) (Or.inr ⟨rfl, k, ?_⟩))))
                             · rw [up_n q1, up_n1 q2, up_n1 q3]; exact h3 a b q1 q2 q3
                             · exact hk.farm hi ⟨by omega, by omega⟩ up_s (by rw [up_n1 (by omega), up_s]) (by rw [up_n1 (by omega), up_n1 (by omega), up_s]) (fun j hj => ⟨by rw [up_n1 (by omega), up_n2 (by omega), up_n1 (by omega)], by rw [up_n1 (by omega), up_n1 (by omega), up_n2 (by omega)]⟩))
                    · refine x_iload_n dX5_fault_139 rfl ?_
                      refine xf_SI1 dX5_fault_140 ml_RX5_121 vw_X5_kindOf st_X5_kindOf (sp_kindOf (by unfold inr; omega)) ⟨Nat.le_of_ble_eq_true rfl, Nat.le_of_ble_eq_true rfl, Nat.le_of_ble_eq_true rfl, Nat.le_of_ble_eq_true rfl, Nat.le_of_ble_eq_true rfl⟩ ?_
                      refine x_goto 147 dX5_fault_143 (by decide) ?_
                      refine x_iast (k) dX5_fault_147 rfl (by omega) (show _ < 60 by omega) ?_
                      refine x_aload_n dX5_fault_148 rfl ?_
                      refine x_dupR dX5_fault_149 ?_
                      refine x_getI dX5_fault_150 gf_RX5_115 rfl rfl ?_
                      rw [up_n1 (by omega), up_n1 (by omega), h13]
                      refine x_iconst dX5_fault_153 ?_
                      refine x_iadd dX5_fault_154 ?_
                      refine x_putI dX5_fault_155 pf_RX5_115 rfl rfl ?_
                      refine x_iload dX5_fault_158 rfl ?_
                      refine x_if_ne 174 dX5_fault_160 (by decide) (by unfold inr; omega) (fun h_160 => ?_) (fun h_160 => ?_)
                      · exfalso; omega
                      · refine x_iload_n dX5_fault_163 rfl ?_
                        refine xf_SI1 dX5_fault_164 ml_RX5_121 vw_X5_kindOf st_X5_kindOf (sp_kindOf (by unfold inr; omega)) ⟨Nat.le_of_ble_eq_true rfl, Nat.le_of_ble_eq_true rfl, Nat.le_of_ble_eq_true rfl, Nat.le_of_ble_eq_true rfl, Nat.le_of_ble_eq_true rfl⟩ ?_
                        refine x_if_ge 174 dX5_fault_167 (by decide) (by unfold inr; omega) (fun h_167 => ?_) (fun h_167 => ?_)
                        · refine x_iconst dX5_fault_174 ?_
                          refine x_ist1 dX5_fault_175 ?_
                          refine x_inc2 dX5_fault_176 ?_
                          refine x_goto 9 dX5_fault_179 (by decide) ?_
                          first
                          | (exfalso; omega)
                          | (refine x_dr3 (x_dr4 (x_dr5 (ih (i + 1) _ _ _ (by omega) (by omega) (by omega) (fun a b q1 q2 q3 => ?_) (Or.inl ⟨rfl, k + 1, ?_⟩))))
                             · rw [up_n q1, up_n1 q2, up_n1 q3]; exact h3 a b q1 q2 q3
                             · exact hk.hour hn9 hi (by omega) up_s (by rw [up_n1 (by omega), up_s]) (by rw [up_n1 (by omega), up_n1 (by omega), up_s]) (fun j hj => ⟨by rw [up_n1 (by omega), up_n2 (by omega), up_n1 (by omega)], by rw [up_n1 (by omega), up_n1 (by omega), up_n2 (by omega)]⟩)
                             done)
                          | (refine x_dr3 (x_dr4 (x_dr5 (ih (i + 1) _ _ _ (by omega) (by omega) (by omega) (fun a b q1 q2 q3 => ?_) (Or.inr ⟨rfl, k, ?_⟩))))
                             · rw [up_n q1, up_n1 q2, up_n1 q3]; exact h3 a b q1 q2 q3
                             · exact hk.farm hi ⟨by omega, by omega⟩ up_s (by rw [up_n1 (by omega), up_s]) (by rw [up_n1 (by omega), up_n1 (by omega), up_s]) (fun j hj => ⟨by rw [up_n1 (by omega), up_n2 (by omega), up_n1 (by omega)], by rw [up_n1 (by omega), up_n1 (by omega), up_n2 (by omega)]⟩))
                        · refine x_iconst dX5_fault_170 ?_
                          refine x_goto 175 dX5_fault_171 (by decide) ?_
                          refine x_ist1 dX5_fault_175 ?_
                          refine x_inc2 dX5_fault_176 ?_
                          refine x_goto 9 dX5_fault_179 (by decide) ?_
                          first
                          | (exfalso; omega)
                          | (refine x_dr3 (x_dr4 (x_dr5 (ih (i + 1) _ _ _ (by omega) (by omega) (by omega) (fun a b q1 q2 q3 => ?_) (Or.inl ⟨rfl, k + 1, ?_⟩))))
                             · rw [up_n q1, up_n1 q2, up_n1 q3]; exact h3 a b q1 q2 q3
                             · exact hk.hour hn9 hi (by omega) up_s (by rw [up_n1 (by omega), up_s]) (by rw [up_n1 (by omega), up_n1 (by omega), up_s]) (fun j hj => ⟨by rw [up_n1 (by omega), up_n2 (by omega), up_n1 (by omega)], by rw [up_n1 (by omega), up_n1 (by omega), up_n2 (by omega)]⟩)
                             done)
                          | (refine x_dr3 (x_dr4 (x_dr5 (ih (i + 1) _ _ _ (by omega) (by omega) (by omega) (fun a b q1 q2 q3 => ?_) (Or.inr ⟨rfl, k, ?_⟩))))
                             · rw [up_n q1, up_n1 q2, up_n1 q3]; exact h3 a b q1 q2 q3
                             · exact hk.farm hi ⟨by omega, by omega⟩ up_s (by rw [up_n1 (by omega), up_s]) (by rw [up_n1 (by omega), up_n1 (by omega), up_s]) (fun j hj => ⟨by rw [up_n1 (by omega), up_n2 (by omega), up_n1 (by omega)], by rw [up_n1 (by omega), up_n1 (by omega), up_n2 (by omega)]⟩))
                · exfalso; omega
              · refine x_iload_n dX5_fault_77 rfl ?_
                refine hret _ _ _ _ _ _ dX5_fault_78 rfl ?_
                first
                | (exfalso; omega)
                | (refine ⟨rfl, rfl, k, ⟨hk.2.2.1, Or.inr ⟨?_, ?_, ?_⟩⟩, by omega, h13, hk.2.2.2, h3⟩
                   · rw [← hk.1]; exact h2
                   · rw [← hk.1]; exact hi
                   · show acV _ _ _ _ = -1
                     rw [← hk.1]
                     exact ac_n (by omega) (by rintro ⟨y1, y2⟩; omega))
            · replace h_62 := b1 h_62
              refine x_iconst dX5_fault_65 ?_
              refine x_goto 70 dX5_fault_66 (by decide) ?_
              refine x_ist5 dX5_fault_70 ?_
              refine x_iload dX5_fault_72 rfl ?_
              refine x_if_ne 79 dX5_fault_74 (by decide) (by unfold inr; omega) (fun h_74 => ?_) (fun h_74 => ?_)
              · refine x_iload dX5_fault_79 rfl ?_
                refine x_if_eq 99 dX5_fault_81 (by decide) (by unfold inr; omega) (fun h_81 => ?_) (fun h_81 => ?_)
                · refine x_aload_n dX5_fault_99 rfl ?_
                  refine x_getR (j := 56) dX5_fault_100 gf_RX5_25 rfl rfl (hN _ _ (by decide)) ?_
                  refine x_aload_n dX5_fault_103 rfl ?_
                  refine x_getI dX5_fault_104 gf_RX5_115 rfl rfl ?_
                  rw [h13]
                  refine x_iload_n dX5_fault_107 rfl ?_
                  refine xf_SI1 dX5_fault_108 ml_RX5_121 vw_X5_kindOf st_X5_kindOf (sp_kindOf (by unfold inr; omega)) ⟨Nat.le_of_ble_eq_true rfl, Nat.le_of_ble_eq_true rfl, Nat.le_of_ble_eq_true rfl, Nat.le_of_ble_eq_true rfl, Nat.le_of_ble_eq_true rfl⟩ ?_
                  refine x_if_lt 119 dX5_fault_111 (by decide) (by unfold inr; omega) (fun h_111 => ?_) (fun h_111 => ?_)
                  · refine x_iload_n dX5_fault_119 rfl ?_
                    refine x_bipush dX5_fault_120 (by decide) ?_
                    refine x_isub dX5_fault_122 ?_
                    refine x_iast (k) dX5_fault_123 rfl (by omega) (show _ < 60 by omega) ?_
                    refine x_aload_n dX5_fault_124 rfl ?_
                    refine x_getR (j := 55) dX5_fault_125 gf_RX5_22 rfl rfl (hN _ _ (by decide)) ?_
                    refine x_aload_n dX5_fault_128 rfl ?_
                    refine x_getI dX5_fault_129 gf_RX5_115 rfl rfl ?_
                    rw [up_n1 (by omega), h13]
                    refine x_iload_n dX5_fault_132 rfl ?_
                    refine xf_SI1 dX5_fault_133 ml_RX5_121 vw_X5_kindOf st_X5_kindOf (sp_kindOf (by unfold inr; omega)) ⟨Nat.le_of_ble_eq_true rfl, Nat.le_of_ble_eq_true rfl, Nat.le_of_ble_eq_true rfl, Nat.le_of_ble_eq_true rfl, Nat.le_of_ble_eq_true rfl⟩ ?_
                    refine x_if_lt 146 dX5_fault_136 (by decide) (by unfold inr; omega) (fun h_136 => ?_) (fun h_136 => ?_)
                    · refine x_iconst dX5_fault_146 ?_
                      refine x_iast (k) dX5_fault_147 rfl (by omega) (show _ < 60 by omega) ?_
                      refine x_aload_n dX5_fault_148 rfl ?_
                      refine x_dupR dX5_fault_149 ?_
                      refine x_getI dX5_fault_150 gf_RX5_115 rfl rfl ?_
                      rw [up_n1 (by omega), up_n1 (by omega), h13]
                      refine x_iconst dX5_fault_153 ?_
                      refine x_iadd dX5_fault_154 ?_
                      refine x_putI dX5_fault_155 pf_RX5_115 rfl rfl ?_
                      refine x_iload dX5_fault_158 rfl ?_
                      refine x_if_ne 174 dX5_fault_160 (by decide) (by unfold inr; omega) (fun h_160 => ?_) (fun h_160 => ?_)
                      · exfalso; omega
                      · refine x_iload_n dX5_fault_163 rfl ?_
                        refine xf_SI1 dX5_fault_164 ml_RX5_121 vw_X5_kindOf st_X5_kindOf (sp_kindOf (by unfold inr; omega)) ⟨Nat.le_of_ble_eq_true rfl, Nat.le_of_ble_eq_true rfl, Nat.le_of_ble_eq_true rfl, Nat.le_of_ble_eq_true rfl, Nat.le_of_ble_eq_true rfl⟩ ?_
                        refine x_if_ge 174 dX5_fault_167 (by decide) (by unfold inr; omega) (fun h_167 => ?_) (fun h_167 => ?_)
                        · refine x_iconst dX5_fault_174 ?_
                          refine x_ist1 dX5_fault_175 ?_
                          refine x_inc2 dX5_fault_176 ?_
                          refine x_goto 9 dX5_fault_179 (by decide) ?_
                          first
                          | (exfalso; omega)
                          | (refine x_dr3 (x_dr4 (x_dr5 (ih (i + 1) _ _ _ (by omega) (by omega) (by omega) (fun a b q1 q2 q3 => ?_) (Or.inl ⟨rfl, k + 1, ?_⟩))))
                             · rw [up_n q1, up_n1 q2, up_n1 q3]; exact h3 a b q1 q2 q3
                             · exact hk.hour hn9 hi (by omega) up_s (by rw [up_n1 (by omega), up_s]) (by rw [up_n1 (by omega), up_n1 (by omega), up_s]) (fun j hj => ⟨by rw [up_n1 (by omega), up_n2 (by omega), up_n1 (by omega)], by rw [up_n1 (by omega), up_n1 (by omega), up_n2 (by omega)]⟩)
                             done)
                          | (refine x_dr3 (x_dr4 (x_dr5 (ih (i + 1) _ _ _ (by omega) (by omega) (by omega) (fun a b q1 q2 q3 => ?_) (Or.inr ⟨rfl, k, ?_⟩))))
                             · rw [up_n q1, up_n1 q2, up_n1 q3]; exact h3 a b q1 q2 q3
                             · exact hk.farm hi ⟨by omega, by omega⟩ up_s (by rw [up_n1 (by omega), up_s]) (by rw [up_n1 (by omega), up_n1 (by omega), up_s]) (fun j hj => ⟨by rw [up_n1 (by omega), up_n2 (by omega), up_n1 (by omega)], by rw [up_n1 (by omega), up_n1 (by omega), up_n2 (by omega)]⟩))
                        · refine x_iconst dX5_fault_170 ?_
                          refine x_goto 175 dX5_fault_171 (by decide) ?_
                          refine x_ist1 dX5_fault_175 ?_
                          refine x_inc2 dX5_fault_176 ?_
                          refine x_goto 9 dX5_fault_179 (by decide) ?_
                          first
                          | (exfalso; omega)
                          | (refine x_dr3 (x_dr4 (x_dr5 (ih (i + 1) _ _ _ (by omega) (by omega) (by omega) (fun a b q1 q2 q3 => ?_) (Or.inl ⟨rfl, k + 1, ?_⟩))))
                             · rw [up_n q1, up_n1 q2, up_n1 q3]; exact h3 a b q1 q2 q3
                             · exact hk.hour hn9 hi (by omega) up_s (by rw [up_n1 (by omega), up_s]) (by rw [up_n1 (by omega), up_n1 (by omega), up_s]) (fun j hj => ⟨by rw [up_n1 (by omega), up_n2 (by omega), up_n1 (by omega)], by rw [up_n1 (by omega), up_n1 (by omega), up_n2 (by omega)]⟩)
                             done)
                          | (refine x_dr3 (x_dr4 (x_dr5 (ih (i + 1) _ _ _ (by omega) (by omega) (by omega) (fun a b q1 q2 q3 => ?_) (Or.inr ⟨rfl, k, ?_⟩))))
                             · rw [up_n q1, up_n1 q2, up_n1 q3]; exact h3 a b q1 q2 q3
                             · exact hk.farm hi ⟨by omega, by omega⟩ up_s (by rw [up_n1 (by omega), up_s]) (by rw [up_n1 (by omega), up_n1 (by omega), up_s]) (fun j hj => ⟨by rw [up_n1 (by omega), up_n2 (by omega), up_n1 (by omega)], by rw [up_n1 (by omega), up_n1 (by omega), up_n2 (by omega)]⟩))
                    · refine x_iload_n dX5_fault_139 rfl ?_
                      refine xf_SI1 dX5_fault_140 ml_RX5_121 vw_X5_kindOf st_X5_kindOf (sp_kindOf (by unfold inr; omega)) ⟨Nat.le_of_ble_eq_true rfl, Nat.le_of_ble_eq_true rfl, Nat.le_of_ble_eq_true rfl, Nat.le_of_ble_eq_true rfl, Nat.le_of_ble_eq_true rfl⟩ ?_
                      refine x_goto 147 dX5_fault_143 (by decide) ?_
                      refine x_iast (k) dX5_fault_147 rfl (by omega) (show _ < 60 by omega) ?_
                      refine x_aload_n dX5_fault_148 rfl ?_
                      refine x_dupR dX5_fault_149 ?_
                      refine x_getI dX5_fault_150 gf_RX5_115 rfl rfl ?_
                      rw [up_n1 (by omega), up_n1 (by omega), h13]
                      refine x_iconst dX5_fault_153 ?_
                      refine x_iadd dX5_fault_154 ?_
                      refine x_putI dX5_fault_155 pf_RX5_115 rfl rfl ?_
                      refine x_iload dX5_fault_158 rfl ?_
                      refine x_if_ne 174 dX5_fault_160 (by decide) (by unfold inr; omega) (fun h_160 => ?_) (fun h_160 => ?_)
                      · exfalso; omega
                      · refine x_iload_n dX5_fault_163 rfl ?_
                        refine xf_SI1 dX5_fault_164 ml_RX5_121 vw_X5_kindOf st_X5_kindOf (sp_kindOf (by unfold inr; omega)) ⟨Nat.le_of_ble_eq_true rfl, Nat.le_of_ble_eq_true rfl, Nat.le_of_ble_eq_true rfl, Nat.le_of_ble_eq_true rfl, Nat.le_of_ble_eq_true rfl⟩ ?_
                        refine x_if_ge 174 dX5_fault_167 (by decide) (by unfold inr; omega) (fun h_167 => ?_) (fun h_167 => ?_)
                        · refine x_iconst dX5_fault_174 ?_
                          refine x_ist1 dX5_fault_175 ?_
                          refine x_inc2 dX5_fault_176 ?_
                          refine x_goto 9 dX5_fault_179 (by decide) ?_
                          first
                          | (exfalso; omega)
                          | (refine x_dr3 (x_dr4 (x_dr5 (ih (i + 1) _ _ _ (by omega) (by omega) (by omega) (fun a b q1 q2 q3 => ?_) (Or.inl ⟨rfl, k + 1, ?_⟩))))
                             · rw [up_n q1, up_n1 q2, up_n1 q3]; exact h3 a b q1 q2 q3
                             · exact hk.hour hn9 hi (by omega) up_s (by rw [up_n1 (by omega), up_s]) (by rw [up_n1 (by omega), up_n1 (by omega), up_s]) (fun j hj => ⟨by rw [up_n1 (by omega), up_n2 (by omega), up_n1 (by omega)], by rw [up_n1 (by omega), up_n1 (by omega), up_n2 (by omega)]⟩)
                             done)
                          | (refine x_dr3 (x_dr4 (x_dr5 (ih (i + 1) _ _ _ (by omega) (by omega) (by omega) (fun a b q1 q2 q3 => ?_) (Or.inr ⟨rfl, k, ?_⟩))))
                             · rw [up_n q1, up_n1 q2, up_n1 q3]; exact h3 a b q1 q2 q3
                             · exact hk.farm hi ⟨by omega, by omega⟩ up_s (by rw [up_n1 (by omega), up_s]) (by rw [up_n1 (by omega), up_n1 (by omega), up_s]) (fun j hj => ⟨by rw [up_n1 (by omega), up_n2 (by omega), up_n1 (by omega)], by rw [up_n1 (by omega), up_n1 (by omega), up_n2 (by omega)]⟩))
                        · refine x_iconst dX5_fault_170 ?_
                          refine x_goto 175 dX5_fault_171 (by decide) ?_
                          refine x_ist1 dX5_fault_175 ?_
                          refine x_inc2 dX5_fault_176 ?_
                          refine x_goto 9 dX5_fault_179 (by decide) ?_
                          first
                          | (exfalso; omega)
                          | (refine x_dr3 (x_dr4 (x_dr5 (ih (i + 1) _ _ _ (by omega) (by omega) (by omega) (fun a b q1 q2 q3 => ?_) (Or.inl ⟨rfl, k + 1, ?_⟩))))
                             · rw [up_n q1, up_n1 q2, up_n1 q3]; exact h3 a b q1 q2 q3
                             · exact hk.hour hn9 hi (by omega) up_s (by rw [up_n1 (by omega), up_s]) (by rw [up_n1 (by omega), up_n1 (by omega), up_s]) (fun j hj => ⟨by rw [up_n1 (by omega), up_n2 (by omega), up_n1 (by omega)], by rw [up_n1 (by omega), up_n1 (by omega), up_n2 (by omega)]⟩)
                             done)
                          | (refine x_dr3 (x_dr4 (x_dr5 (ih (i + 1) _ _ _ (by omega) (by omega) (by omega) (fun a b q1 q2 q3 => ?_) (Or.inr ⟨rfl, k, ?_⟩))))
                             · rw [up_n q1, up_n1 q2, up_n1 q3]; exact h3 a b q1 q2 q3
                             · exact hk.farm hi ⟨by omega, by omega⟩ up_s (by rw [up_n1 (by omega), up_s]) (by rw [up_n1 (by omega), up_n1 (by omega), up_s]) (fun j hj => ⟨by rw [up_n1 (by omega), up_n2 (by omega), up_n1 (by omega)], by rw [up_n1 (by omega), up_n1 (by omega), up_n2 (by omega)]⟩))
                  · refine x_bipush dX5_fault_114 (by decide) ?_
                    refine x_goto 123 dX5_fault_116 (by decide) ?_
                    refine x_iast (k) dX5_fault_123 rfl (by omega) (show _ < 60 by omega) ?_
                    refine x_aload_n dX5_fault_124 rfl ?_
                    refine x_getR (j := 55) dX5_fault_125 gf_RX5_22 rfl rfl (hN _ _ (by decide)) ?_
                    refine x_aload_n dX5_fault_128 rfl ?_
                    refine x_getI dX5_fault_129 gf_RX5_115 rfl rfl ?_
                    rw [up_n1 (by omega), h13]
                    refine x_iload_n dX5_fault_132 rfl ?_
                    refine xf_SI1 dX5_fault_133 ml_RX5_121 vw_X5_kindOf st_X5_kindOf (sp_kindOf (by unfold inr; omega)) ⟨Nat.le_of_ble_eq_true rfl, Nat.le_of_ble_eq_true rfl, Nat.le_of_ble_eq_true rfl, Nat.le_of_ble_eq_true rfl, Nat.le_of_ble_eq_true rfl⟩ ?_
                    refine x_if_lt 146 dX5_fault_136 (by decide) (by unfold inr; omega) (fun h_136 => ?_) (fun h_136 => ?_)
                    · refine x_iconst dX5_fault_146 ?_
                      refine x_iast (k) dX5_fault_147 rfl (by omega) (show _ < 60 by omega) ?_
                      refine x_aload_n dX5_fault_148 rfl ?_
                      refine x_dupR dX5_fault_149 ?_
                      refine x_getI dX5_fault_150 gf_RX5_115 rfl rfl ?_
                      rw [up_n1 (by omega), up_n1 (by omega), h13]
                      refine x_iconst dX5_fault_153 ?_
                      refine x_iadd dX5_fault_154 ?_
                      refine x_putI dX5_fault_155 pf_RX5_115 rfl rfl ?_
                      refine x_iload dX5_fault_158 rfl ?_
                      refine x_if_ne 174 dX5_fault_160 (by decide) (by unfold inr; omega) (fun h_160 => ?_) (fun h_160 => ?_)
                      · exfalso; omega
                      · refine x_iload_n dX5_fault_163 rfl ?_
                        refine xf_SI1 dX5_fault_164 ml_RX5_121 vw_X5_kindOf st_X5_kindOf (sp_kindOf (by unfold inr; omega)) ⟨Nat.le_of_ble_eq_true rfl, Nat.le_of_ble_eq_true rfl, Nat.le_of_ble_eq_true rfl, Nat.le_of_ble_eq_true rfl, Nat.le_of_ble_eq_true rfl⟩ ?_
                        refine x_if_ge 174 dX5_fault_167 (by decide) (by unfold inr; omega) (fun h_167 => ?_) (fun h_167 => ?_)
                        · refine x_iconst dX5_fault_174 ?_
                          refine x_ist1 dX5_fault_175 ?_
                          refine x_inc2 dX5_fault_176 ?_
                          refine x_goto 9 dX5_fault_179 (by decide) ?_
                          first
                          | (exfalso; omega)
                          | (refine x_dr3 (x_dr4 (x_dr5 (ih (i + 1) _ _ _ (by omega) (by omega) (by omega) (fun a b q1 q2 q3 => ?_) (Or.inl ⟨rfl, k + 1, ?_⟩))))
                             · rw [up_n q1, up_n1 q2, up_n1 q3]; exact h3 a b q1 q2 q3
                             · exact hk.hour hn9 hi (by omega) up_s (by rw [up_n1 (by omega), up_s]) (by rw [up_n1 (by omega), up_n1 (by omega), up_s]) (fun j hj => ⟨by rw [up_n1 (by omega), up_n2 (by omega), up_n1 (by omega)], by rw [up_n1 (by omega), up_n1 (by omega), up_n2 (by omega)]⟩)
                             done)
                          | (refine x_dr3 (x_dr4 (x_dr5 (ih (i + 1) _ _ _ (by omega) (by omega) (by omega) (fun a b q1 q2 q3 => ?_) (Or.inr ⟨rfl, k, ?_⟩))))
                             · rw [up_n q1, up_n1 q2, up_n1 q3]; exact h3 a b q1 q2 q3
                             · exact hk.farm hi ⟨by omega, by omega⟩ up_s (by rw [up_n1 (by omega), up_s]) (by rw [up_n1 (by omega), up_n1 (by omega), up_s]) (fun j hj => ⟨by rw [up_n1 (by omega), up_n2 (by omega), up_n1 (by omega)], by rw [up_n1 (by omega), up_n1 (by omega), up_n2 (by omega)]⟩))
                        · refine x_iconst dX5_fault_170 ?_
                          refine x_goto 175 dX5_fault_171 (by decide) ?_
                          refine x_ist1 dX5_fault_175 ?_
                          refine x_inc2 dX5_fault_176 ?_
                          refine x_goto 9 dX5_fault_179 (by decide) ?_
                          first
                          | (exfalso; omega)
                          | (refine x_dr3 (x_dr4 (x_dr5 (ih (i + 1) _ _ _ (by omega) (by omega) (by omega) (fun a b q1 q2 q3 => ?_) (Or.inl ⟨rfl, k + 1, ?_⟩))))
                             · rw [up_n q1, up_n1 q2, up_n1 q3]; exact h3 a b q1 q2 q3
                             · exact hk.hour hn9 hi (by omega) up_s (by rw [up_n1 (by omega), up_s]) (by rw [up_n1 (by omega), up_n1 (by omega), up_s]) (fun j hj => ⟨by rw [up_n1 (by omega), up_n2 (by omega), up_n1 (by omega)], by rw [up_n1 (by omega), up_n1 (by omega), up_n2 (by omega)]⟩)
                             done)
                          | (refine x_dr3 (x_dr4 (x_dr5 (ih (i + 1) _ _ _ (by omega) (by omega) (by omega) (fun a b q1 q2 q3 => ?_) (Or.inr ⟨rfl, k, ?_⟩))))
                             · rw [up_n q1, up_n1 q2, up_n1 q3]; exact h3 a b q1 q2 q3
                             · exact hk.farm hi ⟨by omega, by omega⟩ up_s (by rw [up_n1 (by omega), up_s]) (by rw [up_n1 (by omega), up_n1 (by omega), up_s]) (fun j hj => ⟨by rw [up_n1 (by omega), up_n2 (by omega), up_n1 (by omega)], by rw [up_n1 (by omega), up_n1 (by omega), up_n2 (by omega)]⟩))
                    · refine x_iload_n dX5_fault_139 rfl ?_
                      refine xf_SI1 dX5_fault_140 ml_RX5_121 vw_X5_kindOf st_X5_kindOf (sp_kindOf (by unfold inr; omega)) ⟨Nat.le_of_ble_eq_true rfl, Nat.le_of_ble_eq_true rfl, Nat.le_of_ble_eq_true rfl, Nat.le_of_ble_eq_true rfl, Nat.le_of_ble_eq_true rfl⟩ ?_
                      refine x_goto 147 dX5_fault_143 (by decide) ?_
                      refine x_iast (k) dX5_fault_147 rfl (by omega) (show _ < 60 by omega) ?_
                      refine x_aload_n dX5_fault_148 rfl ?_
                      refine x_dupR dX5_fault_149 ?_
                      refine x_getI dX5_fault_150 gf_RX5_115 rfl rfl ?_
                      rw [up_n1 (by omega), up_n1 (by omega), h13]
                      refine x_iconst dX5_fault_153 ?_
                      refine x_iadd dX5_fault_154 ?_
                      refine x_putI dX5_fault_155 pf_RX5_115 rfl rfl ?_
                      refine x_iload dX5_fault_158 rfl ?_
                      refine x_if_ne 174 dX5_fault_160 (by decide) (by unfold inr; omega) (fun h_160 => ?_) (fun h_160 => ?_)
                      · exfalso; omega
                      · refine x_iload_n dX5_fault_163 rfl ?_
                        refine xf_SI1 dX5_fault_164 ml_RX5_121 vw_X5_kindOf st_X5_kindOf (sp_kindOf (by unfold inr; omega)) ⟨Nat.le_of_ble_eq_true rfl, Nat.le_of_ble_eq_true rfl, Nat.le_of_ble_eq_true rfl, Nat.le_of_ble_eq_true rfl, Nat.le_of_ble_eq_true rfl⟩ ?_
                        refine x_if_ge 174 dX5_fault_167 (by decide) (by unfold inr; omega) (fun h_167 => ?_) (fun h_167 => ?_)
                        · refine x_iconst dX5_fault_174 ?_
                          refine x_ist1 dX5_fault_175 ?_
                          refine x_inc2 dX5_fault_176 ?_
                          refine x_goto 9 dX5_fault_179 (by decide) ?_
                          first
                          | (exfalso; omega)
                          | (refine x_dr3 (x_dr4 (x_dr5 (ih (i + 1) _ _ _ (by omega) (by omega) (by omega) (fun a b q1 q2 q3 => ?_) (Or.inl ⟨rfl, k + 1, ?_⟩))))
                             · rw [up_n q1, up_n1 q2, up_n1 q3]; exact h3 a b q1 q2 q3
                             · exact hk.hour hn9 hi (by omega) up_s (by rw [up_n1 (by omega), up_s]) (by rw [up_n1 (by omega), up_n1 (by omega), up_s]) (fun j hj => ⟨by rw [up_n1 (by omega), up_n2 (by omega), up_n1 (by omega)], by rw [up_n1 (by omega), up_n1 (by omega), up_n2 (by omega)]⟩)
                             done)
                          | (refine x_dr3 (x_dr4 (x_dr5 (ih (i + 1) _ _ _ (by omega) (by omega) (by omega) (fun a b q1 q2 q3 => ?_) (Or.inr ⟨rfl, k, ?_⟩))))
                             · rw [up_n q1, up_n1 q2, up_n1 q3]; exact h3 a b q1 q2 q3
                             · exact hk.farm hi ⟨by omega, by omega⟩ up_s (by rw [up_n1 (by omega), up_s]) (by rw [up_n1 (by omega), up_n1 (by omega), up_s]) (fun j hj => ⟨by rw [up_n1 (by omega), up_n2 (by omega), up_n1 (by omega)], by rw [up_n1 (by omega), up_n1 (by omega), up_n2 (by omega)]⟩))
                        · refine x_iconst dX5_fault_170 ?_
                          refine x_goto 175 dX5_fault_171 (by decide) ?_
                          refine x_ist1 dX5_fault_175 ?_
                          refine x_inc2 dX5_fault_176 ?_
                          refine x_goto 9 dX5_fault_179 (by decide) ?_
                          first
                          | (exfalso; omega)
                          | (refine x_dr3 (x_dr4 (x_dr5 (ih (i + 1) _ _ _ (by omega) (by omega) (by omega) (fun a b q1 q2 q3 => ?_) (Or.inl ⟨rfl, k + 1, ?_⟩))))
                             · rw [up_n q1, up_n1 q2, up_n1 q3]; exact h3 a b q1 q2 q3
                             · exact hk.hour hn9 hi (by omega) up_s (by rw [up_n1 (by omega), up_s]) (by rw [up_n1 (by omega), up_n1 (by omega), up_s]) (fun j hj => ⟨by rw [up_n1 (by omega), up_n2 (by omega), up_n1 (by omega)], by rw [up_n1 (by omega), up_n1 (by omega), up_n2 (by omega)]⟩)
                             done)
                          | (refine x_dr3 (x_dr4 (x_dr5 (ih (i + 1) _ _ _ (by omega) (by omega) (by omega) (fun a b q1 q2 q3 => ?_) (Or.inr ⟨rfl, k, ?_⟩))))
                             · rw [up_n q1, up_n1 q2, up_n1 q3]; exact h3 a b q1 q2 q3
                             · exact hk.farm hi ⟨by omega, by omega⟩ up_s (by rw [up_n1 (by omega), up_s]) (by rw [up_n1 (by omega), up_n1 (by omega), up_s]) (fun j hj => ⟨by rw [up_n1 (by omega), up_n2 (by omega), up_n1 (by omega)], by rw [up_n1 (by omega), up_n1 (by omega), up_n2 (by omega)]⟩))
                · exfalso; omega
              · refine x_iload_n dX5_fault_77 rfl ?_
                refine hret _ _ _ _ _ _ dX5_fault_78 rfl ?_
                first
                | (exfalso; omega)
                | (refine ⟨rfl, rfl, k, ⟨hk.2.2.1, Or.inr ⟨?_, ?_, ?_⟩⟩, by omega, h13, hk.2.2.2, h3⟩
                   · rw [← hk.1]; exact h2
                   · rw [← hk.1]; exact hi
                   · show acV _ _ _ _ = -1
                     rw [← hk.1]
                     exact ac_n (by omega) (by rintro ⟨y1, y2⟩; omega))
      refine x_iload_n dX5_fault_9 rfl ?_
      refine x_aload_n dX5_fault_10 rfl ?_
      refine x_getI dX5_fault_11 gf_RX5_112 rfl rfl ?_
      rw [hJd]
      refine x_icmp_ge 182 dX5_fault_14 (by decide) (by unfold inr; omega) (by unfold inr; omega) (fun h_14 => ?_) (fun h_14 => ?_)
      · refine x_bipush dX5_fault_182 (by decide) ?_
        refine hret _ _ _ _ _ _ dX5_fault_184 rfl ?_
        obtain rfl : i = d := by omega
        obtain ⟨k, hk⟩ := hov (fun y => by omega)
        have hki := hk.K60
        exact ⟨rfl, rfl, k, ⟨hk.2.2.1, Or.inl ⟨rfl, by rw [← hk.1]; exact Nat.le_refl _⟩⟩, by omega, hk.2.1, hk.2.2.2, h3⟩
      · refine x_aload_n dX5_fault_17 rfl ?_
        refine x_getR (j := 54) dX5_fault_18 gf_RX5_19 rfl rfl (hN _ _ (by decide)) ?_
        refine x_iload_n dX5_fault_21 rfl ?_
        refine x_iald (i) dX5_fault_22 rfl h2 (show _ < 60 by omega) ?_
        rw [hJp]
        have bP2 := bP (by omega)
        refine x_ist3 dX5_fault_23 ?_
        refine x_iload_n dX5_fault_24 rfl ?_
        refine x_if_eq 39 dX5_fault_25 (by decide) (by unfold inr; omega) (fun h_25 => ?_) (fun h_25 => ?_)
        · refine x_iconst dX5_fault_39 ?_
          refine x_ist4 dX5_fault_40 ?_
          first
          | exact l42n (by omega) (hov (fun y => by omega))
          | exact l42n (by omega) (hov (fun y => h_32 y.2.2))
          | exact l42d (by omega) (by omega) h_32
        · refine x_iload_n dX5_fault_28 rfl ?_
          refine xf_SI1 dX5_fault_29 ml_RX5_118 vw_X5_isDeed st_X5_isDeed (sp_isDeed (by unfold inr; omega)) ⟨Nat.le_of_ble_eq_true rfl, Nat.le_of_ble_eq_true rfl, Nat.le_of_ble_eq_true rfl, Nat.le_of_ble_eq_true rfl, Nat.le_of_ble_eq_true rfl⟩ ?_
          refine x_if_eq 39 dX5_fault_32 (by decide) (by unfold inr; split <;> omega) (fun h_32 => ?_) (fun h_32 => ?_)
          · replace h_32 := b0 h_32
            refine x_iconst dX5_fault_39 ?_
            refine x_ist4 dX5_fault_40 ?_
            first
            | exact l42n (by omega) (hov (fun y => by omega))
            | exact l42n (by omega) (hov (fun y => h_32 y.2.2))
            | exact l42d (by omega) (by omega) h_32
          · replace h_32 := b1 h_32
            refine x_iconst dX5_fault_35 ?_
            refine x_goto 40 dX5_fault_36 (by decide) ?_
            refine x_ist4 dX5_fault_40 ?_
            first
            | exact l42n (by omega) (hov (fun y => by omega))
            | exact l42n (by omega) (hov (fun y => h_32 y.2.2))
            | exact l42d (by omega) (by omega) h_32
  refine x_aload_n dX5_fault_0 rfl ?_
  refine x_iconst dX5_fault_1 ?_
  refine x_putI dX5_fault_2 pf_RX5_115 rfl rfl ?_
  refine x_iconst dX5_fault_5 ?_
  refine x_ist1 dX5_fault_6 ?_
  refine x_iconst dX5_fault_7 ?_
  refine x_ist2 dX5_fault_8 ?_
  refine lp (d + 1) 0 _ _ _ (by omega) (by omega) rfl (fun a b q1 q2 q3 => up_n q1) (Or.inl ⟨rfl, 0, rfl, up_s, fun j hj => absurd hj (Nat.not_lt_zero j), fun j hj => absurd hj (Nat.not_lt_zero j)⟩)
end FR

/-! ===== SpringFarms: days ===== -/
abbrev ofF (c : Nat → Int) (n p : Nat) : Prop := 65 ≤ c p ∧ c p < 65 + (n : Int)
def aoV (c : Nat → Int) (d p : Nat) : Int := if p < d then (if c p = 60 then 5 else if c p = 62 then 6 else if c p = 119 then 7 else 4) else 4
def hoV (s : Int) : Int := if s = 46 then 0 else if s = 110 then 1 else if s = 42 then 2 else if s = 43 then 3 else -1
def acV (c : Nat → Int) (d n p : Nat) : Int := if ofF c n p then aoV c d (p + 1) else hoV (c p)
def frV (c : Nat → Int) (n p : Nat) : Int := if ofF c n p then c p - 65 else 0
def wiV (c : Nat → Int) (d n p : Nat) : Nat := if ofF c n p ∧ acV c d n p ≠ 4 then 2 else 1
def poV (c : Nat → Int) (d n : Nat) : Nat → Nat
  | 0 => 0
  | k + 1 => poV c d n k + wiV c d n (poV c d n k)
def atV (c : Nat → Int) (d n k : Nat) : Int := acV c d n (poV c d n k)
def ftV (c : Nat → Int) (d n k : Nat) : Int := frV c n (poV c d n k)
/-- what a reading comes to: so many parts, and the answer -/
def PD (c : Nat → Int) (d n k : Nat) (z : Int) : Prop := (∀ j, j < k → poV c d n j < d ∧ atV c d n j ≠ -1) ∧ ((z = -6 ∧ d ≤ poV c d n k) ∨ (z = (poV c d n k : Int) ∧ poV c d n k < d ∧ atV c d n k = -1))
theorem PD.uniq {c : Nat → Int} {d n k k2 : Nat} {z z2 : Int} (h : PD c d n k z) (h2 : PD c d n k2 z2) : k = k2 ∧ z = z2 := by
  have e : k = k2 := by
    rcases (by omega : k < k2 ∨ k = k2 ∨ k2 < k) with q | q | q
    · have := h2.1 k q
      rcases h.2 with z | z
      · omega
      · exact absurd z.2.2 this.2
    · exact q
    · have := h.1 k2 q
      rcases h2.2 with z | z
      · omega
      · exact absurd z.2.2 this.2
  subst e
  refine ⟨rfl, ?_⟩
  rcases h.2 with q | q <;> rcases h2.2 with r | r <;> omega
theorem poV_ge {c : Nat → Int} {d n : Nat} : ∀ k, k ≤ poV c d n k
  | 0 => Nat.le_refl _
  | k + 1 => by
    have := poV_ge (c := c) (d := d) (n := n) k
    show k + 1 ≤ poV c d n k + wiV c d n _
    unfold wiV
    split <;> omega
theorem aoV_b {c : Nat → Int} {d p : Nat} : 4 ≤ aoV c d p ∧ aoV c d p ≤ 7 := by
  unfold aoV; (repeat split) <;> omega
theorem hoV_b {s : Int} : -1 ≤ hoV s ∧ hoV s ≤ 3 := by
  unfold hoV; (repeat split) <;> omega
theorem acV_b {c : Nat → Int} {d n p : Nat} : -1 ≤ acV c d n p ∧ acV c d n p ≤ 7 := by
  have h1 := aoV_b (c := c) (d := d) (p := p + 1)
  have h2 := hoV_b (s := c p)
  unfold acV; split <;> omega
theorem frV_b {c : Nat → Int} {n p : Nat} (h : 1 ≤ n) : 0 ≤ frV c n p ∧ frV c n p < n := by
  unfold frV; split <;> omega
/-- what stays of the memory when the day is read -/
def rdK (I J : MM) : Prop := ∀ a k, ¬ (a = 18 ∧ k = 4) → a ≠ 20 → a ≠ 21 → J a k = I a k
/-- the signs on the pad -/
def PB (I : MM) (d : Nat) : Prop := I 18 1 = (d : Int) ∧ d ≤ 60 ∧ ∀ j, j < d → 33 ≤ I 19 j ∧ I 19 j ≤ 126
/-- the day as it is read -/
def RDp (I J : MM) (d n k : Nat) : Prop := J 18 4 = (k : Int) ∧ k ≤ 60 ∧ (∀ j, j < k → J 20 j = atV (I 19) d n j ∧ J 21 j = ftV (I 19) d n j) ∧ rdK I J
section FR
variable {G : GT} {K : List Nat} {N : NN} {I : MM} {n : Nat}
theorem sp_actOn (hN : NS N) {d : Nat} (hP : PB I d) (p : Nat) {z : Int} (hz : z = (p : Int)) (hp : p ≤ 100) : SpI G mX1_actOn .int 0 0 0 0 [.ref 18, vi z] K N I (qI K N I (aoV (I 19) d p)) := by
  refine SpI.of (own := RX1) (cc := cX1_actOn) (L := [some (.ref 18), some (vi z)]) (by decide) rfl rfl (Nat.le_of_ble_eq_true rfl) rfl (fun Fx hnm hret => ?_)
  have hd := hP.2.1
  have l18 : ∀ v : Int, inr v → aoV (I 19) d p = (if v = 60 then 5 else if v = 62 then 6 else if v = 119 then 7 else 4) → XX G RX1 cX1_actOn (RmW 0 0 0 0) Fx 18 [some (.ref 18), some (vi z)] [vi v] K N I 0 0 := by
    intro v hv hq
    rcases (show (v ≠ 60 ∧ v ≠ 62 ∧ v ≠ 119) ∨ v = 60 ∨ v = 62 ∨ v = 119 by omega) with h_18 | h_18 | h_18 | h_18
    · refine x_lookup (off := 42) 60 dX1_actOn_18 hv (by decide) (by obtain ⟨q0, q1, q2⟩ := h_18; simp [Ne.symm q0, Ne.symm q1, Ne.symm q2, Op.lookupswitch.offset_cons, Op.lookupswitch.offset]) (by decide) ?_
      refine x_iconst dX1_actOn_60 ?_
      refine hret _ _ _ _ _ _ dX1_actOn_61 rfl ?_
      refine ⟨rfl, rfl, rfl, ?_⟩
      rw [hq]
      first
      | (rw [h_18]; rfl)
      | (rw [if_neg h_18.1, if_neg h_18.2.1, if_neg h_18.2.2])
    · refine x_lookup (off := 34) 52 dX1_actOn_18 hv (by decide) (by rw [h_18]; try rfl) (by decide) ?_
      refine x_iconst dX1_actOn_52 ?_
      refine hret _ _ _ _ _ _ dX1_actOn_53 rfl ?_
      refine ⟨rfl, rfl, rfl, ?_⟩
      rw [hq]
      first
      | (rw [h_18]; rfl)
      | (rw [if_neg h_18.1, if_neg h_18.2.1, if_neg h_18.2.2])
    · refine x_lookup (off := 36) 54 dX1_actOn_18 hv (by decide) (by rw [h_18]; try rfl) (by decide) ?_
      refine x_bipush dX1_actOn_54 (by decide) ?_
      refine hret _ _ _ _ _ _ dX1_actOn_56 rfl ?_
      refine ⟨rfl, rfl, rfl, ?_⟩
      rw [hq]
      first
      | (rw [h_18]; rfl)
      | (rw [if_neg h_18.1, if_neg h_18.2.1, if_neg h_18.2.2])
    · refine x_lookup (off := 39) 57 dX1_actOn_18 hv (by decide) (by rw [h_18]; try rfl) (by decide) ?_
      refine x_bipush dX1_actOn_57 (by decide) ?_
      refine hret _ _ _ _ _ _ dX1_actOn_59 rfl ?_
      refine ⟨rfl, rfl, rfl, ?_⟩
      rw [hq]
      first
      | (rw [h_18]; rfl)
      | (rw [if_neg h_18.1, if_neg h_18.2.1, if_neg h_18.2.2])
  refine x_iload_n dX1_actOn_0 rfl ?_
  refine x_aload_n dX1_actOn_1 rfl ?_
  refine x_getI dX1_actOn_2 gf_RX1_21 rfl rfl ?_
  rw [hP.1]
  refine x_icmp_ge 17 dX1_actOn_5 (by decide) (by unfold inr; omega) (by unfold inr; omega) (fun h_5 => ?_) (fun h_5 => ?_)
  · refine x_iconst dX1_actOn_17 ?_
    first
    | (have := hP.2.2 p (by omega)
       refine l18 _ (by unfold inr; omega) ?_
       unfold aoV; rw [if_pos (by omega)])
    | (refine l18 _ (by unfold inr; omega) ?_
       unfold aoV; rw [if_neg (by omega)]; rfl)
  · refine x_aload_n dX1_actOn_8 rfl ?_
    refine x_getR (j := 19) dX1_actOn_9 gf_RX1_9 rfl rfl (hN _ _ (by decide)) ?_
    refine x_iload_n dX1_actOn_12 rfl ?_
    refine x_iald (p) dX1_actOn_13 rfl (by omega) (show _ < 60 by omega) ?_
    refine x_goto 18 dX1_actOn_14 (by decide) ?_
    first
    | (have := hP.2.2 p (by omega)
       refine l18 _ (by unfold inr; omega) ?_
       unfold aoV; rw [if_pos (by omega)])
    | (refine l18 _ (by unfold inr; omega) ?_
       unfold aoV; rw [if_neg (by omega)]; rfl)
theorem sp_hourOf {s : Int} (hs : inr s) : SpI G mX1_hourOf .int 0 0 0 0 [vi s] K N I (qI K N I (hoV s)) := by
  refine SpI.of (own := RX1) (cc := cX1_hourOf) (L := [some (vi s)]) (by decide) rfl rfl (Nat.le_of_ble_eq_true rfl) rfl (fun Fx hnm hret => ?_)
  refine x_iload_n dX1_hourOf_0 rfl ?_
  rcases (show (s ≠ 42 ∧ s ≠ 43 ∧ s ≠ 46 ∧ s ≠ 110) ∨ s = 42 ∨ s = 43 ∨ s = 46 ∨ s = 110 by omega) with h_1 | h_1 | h_1 | h_1 | h_1
  · refine x_lookup (off := 51) 52 dX1_hourOf_1 hs (by decide) (by obtain ⟨q0, q1, q2, q3⟩ := h_1; simp [Ne.symm q0, Ne.symm q1, Ne.symm q2, Ne.symm q3, Op.lookupswitch.offset_cons, Op.lookupswitch.offset]) (by decide) ?_
    refine x_iconst dX1_hourOf_52 ?_
    refine hret _ _ _ _ _ _ dX1_hourOf_53 rfl ?_
    refine ⟨rfl, rfl, rfl, ?_⟩
    unfold hoV
    first
    | (rw [h_1]; rfl)
    | (obtain ⟨q1, q2, q3, q4⟩ := h_1
       (repeat rw [if_neg (by assumption)]))
  · refine x_lookup (off := 47) 48 dX1_hourOf_1 hs (by decide) (by rw [h_1]; try rfl) (by decide) ?_
    refine x_iconst dX1_hourOf_48 ?_
    refine hret _ _ _ _ _ _ dX1_hourOf_49 rfl ?_
    refine ⟨rfl, rfl, rfl, ?_⟩
    unfold hoV
    first
    | (rw [h_1]; rfl)
    | (obtain ⟨q1, q2, q3, q4⟩ := h_1
       (repeat rw [if_neg (by assumption)]))
  · refine x_lookup (off := 49) 50 dX1_hourOf_1 hs (by decide) (by rw [h_1]; try rfl) (by decide) ?_
    refine x_iconst dX1_hourOf_50 ?_
    refine hret _ _ _ _ _ _ dX1_hourOf_51 rfl ?_
    refine ⟨rfl, rfl, rfl, ?_⟩
    unfold hoV
    first
    | (rw [h_1]; rfl)
    | (obtain ⟨q1, q2, q3, q4⟩ := h_1
       (repeat rw [if_neg (by assumption)]))
  · refine x_lookup (off := 43) 44 dX1_hourOf_1 hs (by decide) (by rw [h_1]; try rfl) (by decide) ?_
    refine x_iconst dX1_hourOf_44 ?_
    refine hret _ _ _ _ _ _ dX1_hourOf_45 rfl ?_
    refine ⟨rfl, rfl, rfl, ?_⟩
    unfold hoV
    first
    | (rw [h_1]; rfl)
    | (obtain ⟨q1, q2, q3, q4⟩ := h_1
       (repeat rw [if_neg (by assumption)]))
  · refine x_lookup (off := 45) 46 dX1_hourOf_1 hs (by decide) (by rw [h_1]; try rfl) (by decide) ?_
    refine x_iconst dX1_hourOf_46 ?_
    refine hret _ _ _ _ _ _ dX1_hourOf_47 rfl ?_
    refine ⟨rfl, rfl, rfl, ?_⟩
    unfold hoV
    first
    | (rw [h_1]; rfl)
    | (obtain ⟨q1, q2, q3, q4⟩ := h_1
       (repeat rw [if_neg (by assumption)]))
theorem sp_read (hN : NS N) {d : Nat} (hP : PB I d) (hn1 : 1 ≤ n) (hn9 : n ≤ 9) {zn : Int} (hzn : zn = (n : Int)) : SpI G mX1_read .int 1 21 0 0 [.ref 18, vi zn] K N I (pI K N (fun z J => ∃ k, PD (I 19) d n k z ∧ RDp I J d n k)) := by
  refine SpI.of (own := RX1) (cc := cX1_read) (L := [some (.ref 18), some (vi zn), none, none, none, none, none]) (by decide) rfl rfl (Nat.le_of_ble_eq_true rfl) rfl (fun Fx hnm hret => ?_)
  subst hzn
  have hd := hP.2.1
  have lp : ∀ (m : Nat) (k : Nat) (x y : Int) (J : MM), k ≤ 60 → 60 < k + m → x = (k : Int) → y = (poV (I 19) d n k : Int) → poV (I 19) d n k ≤ d + 1 → (∀ j, j < k → poV (I 19) d n j < d ∧ atV (I 19) d n j ≠ -1) → RDp I J d n k → XX G RX1 cX1_read (RmW 1 21 0 0) Fx 9 [some (.ref 18), some (vi (n : Int)), some (vi y), some (vi x), none, none, none] [] K N J 0 0 := by
    intro m
    induction m with
    | zero => intros; exfalso; omega
    | succ m ih =>
      intro k x y J h0 h1 h2 h3 h3b h4 h5
      obtain ⟨p, hp⟩ : ∃ p, p = poV (I 19) d n k := ⟨_, rfl⟩
      rw [← hp] at h3 h3b
      obtain ⟨r1, r2, r3, r4⟩ := h5
      have hJ1 : J 18 1 = (d : Int) := (r4 18 1 (by omega) (by omega) (by omega)).trans hP.1
      have hPJ : PB J d := ⟨hJ1, hd, fun j hj => by rw [r4 19 j (by omega) (by omega) (by omega)]; exact hP.2.2 j hj⟩
      have h19 : J 19 = I 19 := funext fun j => r4 19 j (by omega) (by omega) (by omega)
      have hpg := poV_ge (c := I 19) (d := d) (n := n) k
      rw [← hp] at hpg
      have hsp : p < d → _ := fun h => hP.2.2 p h
      have hat : acV (I 19) d n p = atV (I 19) d n k := by unfold atV; rw [← hp]
      have hfr : frV (I 19) n p = ftV (I 19) d n k := by unfold ftV; rw [← hp]
      have hpo : poV (I 19) d n (k + 1) = p + wiV (I 19) d n p := by rw [hp]; rfl
      have fin : ∀ y2 : Int, p < d → y2 = ((p + wiV (I 19) d n p : Nat) : Int) → atV (I 19) d n k ≠ -1 → XX G RX1 cX1_read (RmW 1 21 0 0) Fx 9 [some (.ref 18), some (vi (n : Int)), some (vi y2), some (vi (x + 1)), none, none, none] [] K N (up (up (up J 20 k (atV (I 19) d n k)) 21 k (ftV (I 19) d n k)) 18 4 ((k : Int) + 1)) 0 0 := by
        intro y2 hpd hy2 hne
        have hw : wiV (I 19) d n p ≤ 2 := by unfold wiV; split <;> omega
        refine ih (k + 1) _ _ _ (by omega) (by omega) (by omega) (by rw [hpo]; exact hy2) (by omega) ?_ ⟨up_s, by omega, ?_, ?_⟩
        · intro j hj
          rcases (by omega : j < k ∨ j = k) with q | rfl
          · exact h4 j q
          · exact ⟨by rw [← hp]; exact hpd, hne⟩
        · intro j hj
          rcases (by omega : j < k ∨ j = k) with q | rfl
          · refine ⟨?_, ?_⟩
            · rw [up_n1 (by omega), up_n1 (by omega), up_n2 (by omega)]; exact (r3 j q).1
            · rw [up_n1 (by omega), up_n2 (by omega), up_n1 (by omega)]; exact (r3 j q).2
          · refine ⟨?_, ?_⟩
            · rw [up_n1 (by omega), up_n1 (by omega)]; exact up_s
            · rw [up_n1 (by omega)]; exact up_s
        · intro a b g1 g2 g3
          have e : up (up (up J 20 k (atV (I 19) d n k)) 21 k (ftV (I 19) d n k)) 18 4 ((k : Int) + 1) a b = J a b := by
            simp only [up]
            rw [if_neg g1, if_neg (by omega), if_neg (by omega)]
          rw [e]; exact r4 a b g1 g2 g3
      have l50 : ∀ v : Int, p < d → v = (if ofF (I 19) n p then 1 else 0) → XX G RX1 cX1_read (RmW 1 21 0 0) Fx 50 [some (.ref 18), some (vi (n : Int)), some (vi y), some (vi x), some (vi (I 19 p - 65)), none, none] [vi v] K N J 0 0 := by
        intro v hpd hv
        have hsp2 := hsp hpd
        by_cases hof : ofF (I 19) n p
        · rw [if_pos hof] at hv
          subst hv
          have hac : acV (I 19) d n p = aoV (I 19) d (p + 1) := by unfold acV; rw [if_pos hof]
          have hab := aoV_b (c := I 19) (d := d) (p := p + 1)
          have hfv : I 19 p - 65 = ftV (I 19) d n k := by rw [← hfr]; unfold frV; rw [if_pos hof]
          refine x_ist5 dX1_read_50 ?_
          refine x_iload dX1_read_52 rfl ?_
          refine x_if_eq 67 dX1_read_54 (by decide) (by unfold inr; omega) (fun h_54 => ?_) (fun h_54 => ?_)
          · exact absurd h_54 (by decide)
          · refine x_aload_n dX1_read_57 rfl ?_
            refine x_iload_n dX1_read_58 rfl ?_
            refine x_iconst dX1_read_59 ?_
            refine x_iadd dX1_read_60 ?_
            refine xf_VI1 dX1_read_61 ml_RX1_28 vw_X1_actOn vv_X1_actOn rfl (sp_actOn hN hPJ (p + 1) (by omega) (by omega)) ⟨Nat.le_of_ble_eq_true rfl, Nat.le_of_ble_eq_true rfl, Nat.le_of_ble_eq_true rfl, Nat.le_of_ble_eq_true rfl, Nat.le_of_ble_eq_true rfl⟩ ?_
            rw [h19, ← hac, hat]
            rw [← hac, hat] at hab
            refine x_goto 76 dX1_read_64 (by decide) ?_
            refine x_ist6 dX1_read_76 ?_
            refine x_iload dX1_read_78 rfl ?_
            refine x_iconst dX1_read_80 ?_
            refine x_icmp_ne 86 dX1_read_81 (by decide) (by unfold inr; omega) (by unfold inr; omega) (fun h_81 => ?_) (fun h_81 => ?_)
            · refine x_aload_n dX1_read_86 rfl ?_
              refine x_getR (j := 20) dX1_read_87 gf_RX1_15 rfl rfl (hN _ _ (by decide)) ?_
              refine x_aload_n dX1_read_90 rfl ?_
              refine x_getI dX1_read_91 gf_RX1_25 rfl rfl ?_
              rw [r1]
              refine x_iload dX1_read_94 rfl ?_
              refine x_iast (k) dX1_read_96 rfl (by omega) (show _ < 60 by omega) ?_
              refine x_aload_n dX1_read_97 rfl ?_
              refine x_getR (j := 21) dX1_read_98 gf_RX1_18 rfl rfl (hN _ _ (by decide)) ?_
              refine x_aload_n dX1_read_101 rfl ?_
              refine x_getI dX1_read_102 gf_RX1_25 rfl rfl ?_
              rw [up_n1 (by omega), r1]
              refine x_iload dX1_read_105 rfl ?_
              refine x_if_eq 115 dX1_read_107 (by decide) (by unfold inr; omega) (fun h_107 => ?_) (fun h_107 => ?_)
              · exact absurd h_107 (by decide)
              · refine x_iload dX1_read_110 rfl ?_
                refine x_eqV hfv ?_
                refine x_goto 116 dX1_read_112 (by decide) ?_
                refine x_iast (k) dX1_read_116 rfl (by omega) (show _ < 60 by omega) ?_
                refine x_aload_n dX1_read_117 rfl ?_
                refine x_dupR dX1_read_118 ?_
                refine x_getI dX1_read_119 gf_RX1_25 rfl rfl ?_
                rw [up_n1 (by omega), up_n1 (by omega), r1]
                refine x_iconst dX1_read_122 ?_
                refine x_iadd dX1_read_123 ?_
                refine x_putI dX1_read_124 pf_RX1_25 rfl rfl ?_
                refine x_iload_n dX1_read_127 rfl ?_
                refine x_iload dX1_read_128 rfl ?_
                refine x_if_eq 143 dX1_read_130 (by decide) (by unfold inr; omega) (fun h_130 => ?_) (fun h_130 => ?_)
                · exact absurd h_130 (by decide)
                · refine x_iload dX1_read_133 rfl ?_
                  refine x_iconst dX1_read_135 ?_
                  refine x_icmp_eq 143 dX1_read_136 (by decide) (by unfold inr; omega) (by unfold inr; omega) (fun h_136 => ?_) (fun h_136 => ?_)
                  · refine x_iconst dX1_read_143 ?_
                    refine x_iadd dX1_read_144 ?_
                    refine x_ist2 dX1_read_145 ?_
                    refine x_inc3 dX1_read_146 ?_
                    refine x_goto 9 dX1_read_149 (by decide) ?_
                    refine x_dr4 (x_dr5 (x_dr6 (fin _ hpd ?_ (by omega))))
                    unfold wiV
                    rw [hat]
                    first
                    | (rw [if_pos ⟨hof, h_136⟩]; omega)
                    | (rw [if_neg (fun z => z.2 h_136)]; omega)
                  · refine x_iconst dX1_read_139 ?_
                    refine x_goto 144 dX1_read_140 (by decide) ?_
                    refine x_iadd dX1_read_144 ?_
                    refine x_ist2 dX1_read_145 ?_
                    refine x_inc3 dX1_read_146 ?_
                    refine x_goto 9 dX1_read_149 (by decide) ?_
                    refine x_dr4 (x_dr5 (x_dr6 (fin _ hpd ?_ (by omega))))
                    unfold wiV
                    rw [hat]
                    first
                    | (rw [if_pos ⟨hof, h_136⟩]; omega)
                    | (rw [if_neg (fun z => z.2 h_136)]; omega)
            · refine x_iload_n dX1_read_84 rfl ?_
              refine hret _ _ _ _ _ _ dX1_read_85 rfl ?_
              exfalso; omega
        · rw [if_neg hof] at hv
          subst hv
          have hac : acV (I 19) d n p = hoV (I 19 p) := by unfold acV; rw [if_neg hof]
          have hab := hoV_b (s := I 19 p)
          have hfv : 0 = ftV (I 19) d n k := by rw [← hfr]; unfold frV; rw [if_neg hof]
          refine x_ist5 dX1_read_50 ?_
          refine x_iload dX1_read_52 rfl ?_
          refine x_if_eq 67 dX1_read_54 (by decide) (by unfold inr; omega) (fun h_54 => ?_) (fun h_54 => ?_)
          · refine x_aload_n dX1_read_67 rfl ?_
            refine x_getR (j := 19) dX1_read_68 gf_RX1_9 rfl rfl (hN _ _ (by decide)) ?_
            refine x_iload_n dX1_read_71 rfl ?_
            refine x_iald (p) dX1_read_72 rfl (by omega) (show _ < 60 by omega) ?_
            rw [h19]
            refine xf_SI1 dX1_read_73 ml_RX1_32 vw_X1_hourOf st_X1_hourOf (sp_hourOf (by unfold inr; omega)) ⟨Nat.le_of_ble_eq_true rfl, Nat.le_of_ble_eq_true rfl, Nat.le_of_ble_eq_true rfl, Nat.le_of_ble_eq_true rfl, Nat.le_of_ble_eq_true rfl⟩ ?_
            rw [← hac, hat]
            rw [← hac, hat] at hab
            refine x_ist6 dX1_read_76 ?_
            refine x_iload dX1_read_78 rfl ?_
            refine x_iconst dX1_read_80 ?_
            refine x_icmp_ne 86 dX1_read_81 (by decide) (by unfold inr; omega) (by unfold inr; omega) (fun h_81 => ?_) (fun h_81 => ?_)
            · refine x_aload_n dX1_read_86 rfl ?_
              refine x_getR (j := 20) dX1_read_87 gf_RX1_15 rfl rfl (hN _ _ (by decide)) ?_
              refine x_aload_n dX1_read_90 rfl ?_
              refine x_getI dX1_read_91 gf_RX1_25 rfl rfl ?_
              rw [r1]
              refine x_iload dX1_read_94 rfl ?_
              refine x_iast (k) dX1_read_96 rfl (by omega) (show _ < 60 by omega) ?_
              refine x_aload_n dX1_read_97 rfl ?_
              refine x_getR (j := 21) dX1_read_98 gf_RX1_18 rfl rfl (hN _ _ (by decide)) ?_
              refine x_aload_n dX1_read_101 rfl ?_
              refine x_getI dX1_read_102 gf_RX1_25 rfl rfl ?_
              rw [up_n1 (by omega), r1]
              refine x_iload dX1_read_105 rfl ?_
              refine x_if_eq 115 dX1_read_107 (by decide) (by unfold inr; omega) (fun h_107 => ?_) (fun h_107 => ?_)
              · refine x_iconst dX1_read_115 ?_
                refine x_eqV hfv ?_
                refine x_iast (k) dX1_read_116 rfl (by omega) (show _ < 60 by omega) ?_
                refine x_aload_n dX1_read_117 rfl ?_
                refine x_dupR dX1_read_118 ?_
                refine x_getI dX1_read_119 gf_RX1_25 rfl rfl ?_
                rw [up_n1 (by omega), up_n1 (by omega), r1]
                refine x_iconst dX1_read_122 ?_
                refine x_iadd dX1_read_123 ?_
                refine x_putI dX1_read_124 pf_RX1_25 rfl rfl ?_
                refine x_iload_n dX1_read_127 rfl ?_
                refine x_iload dX1_read_128 rfl ?_
                refine x_if_eq 143 dX1_read_130 (by decide) (by unfold inr; omega) (fun h_130 => ?_) (fun h_130 => ?_)
                · refine x_iconst dX1_read_143 ?_
                  refine x_iadd dX1_read_144 ?_
                  refine x_ist2 dX1_read_145 ?_
                  refine x_inc3 dX1_read_146 ?_
                  refine x_goto 9 dX1_read_149 (by decide) ?_
                  refine x_dr4 (x_dr5 (x_dr6 (fin _ hpd ?_ h_81)))
                  unfold wiV
                  rw [if_neg (fun z => hof z.1)]; omega
                · exact absurd rfl h_130
              · exact absurd rfl h_107
            · refine x_iload_n dX1_read_84 rfl ?_
              refine hret _ _ _ _ _ _ dX1_read_85 rfl ?_
              refine ⟨rfl, rfl, k, ⟨h4, Or.inr ⟨by rw [h3, hp], by omega, h_81⟩⟩, r1, r2, r3, r4⟩
          · exact absurd rfl h_54
      refine x_iload_n dX1_read_9 rfl ?_
      refine x_bipush dX1_read_10 (by decide) ?_
      refine x_icmp_ge 152 dX1_read_12 (by decide) (by unfold inr; omega) (by unfold inr; omega) (fun h_12 => ?_) (fun h_12 => ?_)
      · refine x_bipush dX1_read_152 (by decide) ?_
        refine hret _ _ _ _ _ _ dX1_read_154 rfl ?_
        exact ⟨rfl, rfl, k, ⟨h4, Or.inl ⟨rfl, by rw [← hp]; omega⟩⟩, r1, r2, r3, r4⟩
      · refine x_iload_n dX1_read_15 rfl ?_
        refine x_aload_n dX1_read_16 rfl ?_
        refine x_getI dX1_read_17 gf_RX1_21 rfl rfl ?_
        rw [hJ1]
        refine x_icmp_ge 152 dX1_read_20 (by decide) (by unfold inr; omega) (by unfold inr; omega) (fun h_20 => ?_) (fun h_20 => ?_)
        · refine x_bipush dX1_read_152 (by decide) ?_
          refine hret _ _ _ _ _ _ dX1_read_154 rfl ?_
          exact ⟨rfl, rfl, k, ⟨h4, Or.inl ⟨rfl, by rw [← hp]; omega⟩⟩, r1, r2, r3, r4⟩
        · refine x_aload_n dX1_read_23 rfl ?_
          refine x_getR (j := 19) dX1_read_24 gf_RX1_9 rfl rfl (hN _ _ (by decide)) ?_
          refine x_iload_n dX1_read_27 rfl ?_
          refine x_iald (p) dX1_read_28 rfl (by omega) (show _ < 60 by omega) ?_
          have hsp2 := hsp (by omega)
          rw [h19]
          refine x_bipush dX1_read_29 (by decide) ?_
          refine x_isub dX1_read_31 ?_
          refine x_ist4 dX1_read_32 ?_
          refine x_iload dX1_read_34 rfl ?_
          refine x_if_lt 49 dX1_read_36 (by decide) (by unfold inr; omega) (fun h_36 => ?_) (fun h_36 => ?_)
          · refine x_iconst dX1_read_49 ?_
            refine l50 _ (by omega) ?_
            first
            | (rw [if_pos (by omega)])
            | (rw [if_neg (by omega)])
          · refine x_iload dX1_read_39 rfl ?_
            refine x_iload_n dX1_read_41 rfl ?_
            refine x_icmp_ge 49 dX1_read_42 (by decide) (by unfold inr; omega) (by unfold inr; omega) (fun h_42 => ?_) (fun h_42 => ?_)
            · refine x_iconst dX1_read_49 ?_
              refine l50 _ (by omega) ?_
              first
              | (rw [if_pos (by omega)])
              | (rw [if_neg (by omega)])
            · refine x_iconst dX1_read_45 ?_
              refine x_goto 50 dX1_read_46 (by decide) ?_
              refine l50 _ (by omega) ?_
              first
              | (rw [if_pos (by omega)])
              | (rw [if_neg (by omega)])
  refine x_aload_n dX1_read_0 rfl ?_
  refine x_iconst dX1_read_1 ?_
  refine x_putI dX1_read_2 pf_RX1_25 rfl rfl ?_
  refine x_iconst dX1_read_5 ?_
  refine x_ist2 dX1_read_6 ?_
  refine x_iconst dX1_read_7 ?_
  refine x_ist3 dX1_read_8 ?_
  refine lp 61 0 _ _ _ (by omega) (by omega) rfl rfl (Nat.zero_le _) (fun j hj => absurd hj (Nat.not_lt_zero j)) ⟨up_s, by omega, fun j hj => absurd hj (Nat.not_lt_zero j), fun a b g1 _ _ => ?_⟩
  simp only [up]; rw [if_neg g1]
end FR

/-! ===== the reference: images ===== -/
section FR
variable {G : GT} {own : String} {cc : ByteArray} {R : Room} {Fx : FxT} {pc : Nat} {L : List (Option Value)} {S : List Value} {K : List Nat} {N : NN} {I : MM} {cs ss : Nat}
theorem x_bast {i : Nat} {z v : Int} (j : Nat) (hd : decode cc pc = .ok (.bastore, 1)) (hv : v = 0 ∨ v = 1) (hk : kd i = 11) (hz : z = (j : Int)) (hj : j < ln i) (h : XX G own cc R Fx (pc + 1) L S K N (up I i j v) cs ss) : XX G own cc R Fx pc L (vi v :: vi z :: .ref i :: S) K N I cs ss := by
  obtain ⟨p, e, s, m, args, below, meth, c, Q, nL, a0, K0⟩ := Fx
  intro ok al H locs ls st
  obtain ⟨hx, hb, hml, hown, hts, hE, hA⟩ := id ok
  subst hz
  have hi : i ∈ K := st.2.2.2.2.1.tail.tail.head.mem (by omega)
  have hj3 := ln_lt i
  have en : vp_nar .boolean (Int32.ofInt v) = Int32.ofInt v := by rcases hv with rfl | rfl <;> rfl
  obtain ⟨q0, hq⟩ := List.getElem?_of_mem hi
  refine va_zast hx hb hE.1 st.1.1 st.1.2.1 st.2.1 q0 1 (by rw [wl_at hq, ent_boo hk]) rfl (oi_in hj (by omega)) hd (fun H1 locs1 g1 g2 g3 => ?_)
  rw [oi_clamp (by omega), en] at g1 g2
  have e : (wl G.2.1 al K N I).set q0 (al i, .inl (G.2.1 1, ln i, .inl (upd (ia I i) j (Int32.ofInt v)))) = wl G.2.1 al K N (up I i j v) := wl_set st.1.2.1 hq (by rw [ent_boo hk, ia_up]) (fun j hj => ent_congr (fun b => up_n1 hj) (fun b => rfl))
  exact h ok al H1 locs1 ls ⟨st.1.put (e ▸ g1) (e ▸ g2) st.1.2.2.2.2, g3, st.2.2.1, st.2.2.2.1, st.2.2.2.2.1.tail.tail.tail, st.2.2.2.2.2⟩
end FR
/-- the place of a number in an image; 85: it is none's -/
def ixI (a b : Nat) : Nat := if a = 50 then (if b = 0 then 0 else if b = 2 then 1 else if b = 3 then 2 else if b = 4 then 3 else if b = 5 then 4 else if b = 8 then 5 else 85) else if a = 51 ∧ b < 63 then 6 + b else if a = 52 ∧ b < 8 then 69 + 2 * b else if a = 53 ∧ b < 8 then 70 + 2 * b else 85
theorem ix_c (a b : Nat) : (a = 50 ∧ ((b = 0 ∧ ixI a b = 0) ∨ (b = 2 ∧ ixI a b = 1) ∨ (b = 3 ∧ ixI a b = 2) ∨ (b = 4 ∧ ixI a b = 3) ∨ (b = 5 ∧ ixI a b = 4) ∨ (b = 8 ∧ ixI a b = 5))) ∨ (a = 51 ∧ b < 63 ∧ ixI a b = 6 + b) ∨ (a = 52 ∧ b < 8 ∧ ixI a b = 69 + 2 * b) ∨ (a = 53 ∧ b < 8 ∧ ixI a b = 70 + 2 * b) ∨ ixI a b = 85 := by
  unfold ixI
  (repeat' split) <;> omega
theorem ix_inj {a b c d : Nat} (h : ixI a b = ixI c d) (h2 : ixI a b < 85) : a = c ∧ b = d := by
  have h3 := ix_c a b
  have h4 := ix_c c d
  omega
/-- writing: so many places of the image at o are kept -/
def PAW (I J : MM) (o m : Nat) : Prop := (∀ a b, a ≠ 65 → ¬ (a = 50 ∧ b = 30) → J a b = I a b) ∧ J 50 30 = ((o + m : Nat) : Int) ∧ (∀ a b, ixI a b < m → J 65 (o + ixI a b) = I a b) ∧ (∀ b, b < o ∨ o + m ≤ b → J 65 b = I 65 b)
/-- reading: so many are laid -/
def PAR (I J : MM) (o m : Nat) : Prop := (∀ a b, m ≤ ixI a b → a ≠ 65 → ¬ (a = 50 ∧ b = 30) → J a b = I a b) ∧ J 50 30 = ((o + m : Nat) : Int) ∧ (∀ a b, ixI a b < m → J a b = I 65 (o + ixI a b)) ∧ (∀ b, J 65 b = I 65 b)
def PA (I J : MM) (o m : Nat) : Prop := (I 50 31 = 0 ∧ PAR I J o m) ∨ (I 50 31 = 1 ∧ PAW I J o m)
theorem ix_31 : ixI 50 31 = 85 := by decide
theorem ix_65 {b : Nat} : ixI 65 b = 85 := by have := ix_c 65 b; omega
theorem ix_30 : ixI 50 30 = 85 := by decide
theorem PA.at {I J : MM} {o m : Nat} (h : PA I J o m) (hm : m ≤ 85) : J 50 30 = ((o + m : Nat) : Int) ∧ J 50 31 = I 50 31 ∧ (J 50 31 = 0 ∨ J 50 31 = 1) := by
  rcases h with ⟨h, r1, r2, r3, r4⟩ | ⟨h, r1, r2, r3, r4⟩
  · have e := r1 50 31 (by rw [ix_31]; exact hm) (by decide) (by decide)
    exact ⟨r2, e, by rw [e, h]; exact Or.inl rfl⟩
  · have e := r1 50 31 (by decide) (by decide)
    exact ⟨r2, e, by rw [e, h]; exact Or.inr rfl⟩
theorem PA.st {I J : MM} {o m a b : Nat} (h : PA I J o m) (hm : ixI a b = m) (hlt : m < 85) : PA I (up (up (up J 65 (o + m) (if J 50 31 = 0 then J 65 (o + m) else J a b)) 50 30 (((o + m : Nat) : Int) + 1)) a b (if J 50 31 = 0 then J 65 (o + m) else J a b)) o (m + 1) := by
  have e31 := (h.at (by omega)).2.1
  have hab := ix_c a b
  have n65 : a ≠ 65 := by omega
  have n30 : ¬ (a = 50 ∧ b = 30) := by omega
  rcases h with ⟨h, r1, r2, r3, r4⟩ | ⟨h, r1, r2, r3, r4⟩
  · refine Or.inl ⟨h, ?_⟩
    rw [e31, if_pos h]
    have n50 : ¬ (50 = a ∧ 30 = b) := by omega
    refine ⟨fun c d q1 q2 q3 => ?_, ?_, fun c d q1 => ?_, fun d => ?_⟩
    · rw [up_n (by rintro ⟨rfl, rfl⟩; omega), up_n q3, up_n1 q2]; exact r1 c d (by omega) q2 q3
    · rw [up_n n50, up_s]; omega
    · by_cases z : c = a ∧ d = b
      · rw [z.1, z.2, up_s, hm, r4]
      · rw [up_n z]
        have hcd := ix_c c d
        have hlt2 : ixI c d < m := by
          rcases (by omega : ixI c d < m ∨ ixI c d = m) with y | y
          · exact y
          · exact absurd (ix_inj (y.trans hm.symm) (by omega)) z
        rw [up_n (by omega), up_n1 (by omega)]; exact r3 c d hlt2
    · rw [up_n (by omega), up_n1 (by decide)]
      by_cases y : d = o + m
      · rw [y, up_s]; exact r4 _
      · rw [up_n2 y]; exact r4 d
  · refine Or.inr ⟨h, ?_⟩
    rw [e31, if_neg (by omega), r1 a b n65 n30]
    have n50 : ¬ (50 = a ∧ 30 = b) := by omega
    refine ⟨fun c d q2 q3 => ?_, ?_, fun c d q1 => ?_, fun d q1 => ?_⟩
    · by_cases z : c = a ∧ d = b
      · rw [z.1, z.2, up_s]
      · rw [up_n z, up_n q3, up_n1 q2]; exact r1 c d q2 q3
    · rw [up_n n50, up_s]; omega
    · rw [up_n (by omega), up_n1 (by decide)]
      by_cases y : ixI c d = m
      · rw [y, up_s]
        obtain ⟨rfl, rfl⟩ := ix_inj (y.trans hm.symm) (by omega)
        rfl
      · rw [up_n2 (by omega)]; exact r3 c d (by omega)
    · rw [up_n (by omega), up_n1 (by decide), up_n2 (by omega)]; exact r4 d (by omega)
section FR
variable {G : GT} {K : List Nat} {N : NN} {I : MM} {n : Nat}
theorem sp_mpass (hN : NS N) {p : Nat} (hp : I 50 30 = (p : Int)) (hp2 : p < 200) (hw : I 50 31 = 0 ∨ I 50 31 = 1) {v : Int} : SpI G mX5_pass .int 0 0 0 0 [.ref 50, vi v] K N I (qI K N (up (up I 65 p (if I 50 31 = 0 then I 65 p else v)) 50 30 ((p : Int) + 1)) (if I 50 31 = 0 then I 65 p else v)) := by
  refine SpI.of (own := RX5) (cc := cX5_pass) (L := [some (.ref 50), some (vi v), none]) (by decide) rfl rfl (Nat.le_of_ble_eq_true rfl) rfl (fun Fx hnm hret => ?_)
  refine x_aload_n dX5_pass_0 rfl ?_
  refine x_getI dX5_pass_1 gf_RX5_252 rfl rfl ?_
  refine x_if_eq 11 dX5_pass_4 (by decide) (by unfold inr; omega) (fun h_4 => ?_) (fun h_4 => ?_)
  · refine x_aload_n dX5_pass_11 rfl ?_
    refine x_getR (j := 65) dX5_pass_12 gf_RX5_52 rfl rfl (hN _ _ (by decide)) ?_
    refine x_aload_n dX5_pass_15 rfl ?_
    refine x_getI dX5_pass_16 gf_RX5_256 rfl rfl ?_
    rw [hp]
    refine x_iald (p) dX5_pass_19 rfl (by omega) (show _ < 200 by omega) ?_
    refine x_ist2 dX5_pass_20 ?_
    refine x_aload_n dX5_pass_21 rfl ?_
    refine x_getR (j := 65) dX5_pass_22 gf_RX5_52 rfl rfl (hN _ _ (by decide)) ?_
    refine x_aload_n dX5_pass_25 rfl ?_
    refine x_getI dX5_pass_26 gf_RX5_256 rfl rfl ?_
    rw [hp]
    refine x_iload_n dX5_pass_29 rfl ?_
    refine x_iast (p) dX5_pass_30 rfl (by omega) (show _ < 200 by omega) ?_
    refine x_aload_n dX5_pass_31 rfl ?_
    refine x_dupR dX5_pass_32 ?_
    refine x_getI dX5_pass_33 gf_RX5_256 rfl rfl ?_
    rw [up_n1 (by omega), hp]
    refine x_iconst dX5_pass_36 ?_
    refine x_iadd dX5_pass_37 ?_
    refine x_putI dX5_pass_38 pf_RX5_256 rfl rfl ?_
    refine x_iload_n dX5_pass_41 rfl ?_
    refine hret _ _ _ _ _ _ dX5_pass_42 rfl ?_
    refine ⟨rfl, rfl, ?_, ?_⟩
    · first
      | (rw [if_pos h_4]; done)
      | (rw [if_neg h_4]; done)
    · first
      | (rw [if_pos h_4]; done)
      | (rw [if_neg h_4]; done)
  · refine x_iload_n dX5_pass_7 rfl ?_
    refine x_goto 20 dX5_pass_8 (by decide) ?_
    refine x_ist2 dX5_pass_20 ?_
    refine x_aload_n dX5_pass_21 rfl ?_
    refine x_getR (j := 65) dX5_pass_22 gf_RX5_52 rfl rfl (hN _ _ (by decide)) ?_
    refine x_aload_n dX5_pass_25 rfl ?_
    refine x_getI dX5_pass_26 gf_RX5_256 rfl rfl ?_
    rw [hp]
    refine x_iload_n dX5_pass_29 rfl ?_
    refine x_iast (p) dX5_pass_30 rfl (by omega) (show _ < 200 by omega) ?_
    refine x_aload_n dX5_pass_31 rfl ?_
    refine x_dupR dX5_pass_32 ?_
    refine x_getI dX5_pass_33 gf_RX5_256 rfl rfl ?_
    rw [up_n1 (by omega), hp]
    refine x_iconst dX5_pass_36 ?_
    refine x_iadd dX5_pass_37 ?_
    refine x_putI dX5_pass_38 pf_RX5_256 rfl rfl ?_
    refine x_iload_n dX5_pass_41 rfl ?_
    refine hret _ _ _ _ _ _ dX5_pass_42 rfl ?_
    refine ⟨rfl, rfl, ?_, ?_⟩
    · first
      | (rw [if_pos h_4]; done)
      | (rw [if_neg h_4]; done)
    · first
      | (rw [if_pos h_4]; done)
      | (rw [if_neg h_4]; done)
theorem sp_passAll (hN : NS N) {o : Nat} (ho : o + 85 ≤ 200) (hp : I 50 30 = (o : Int)) (hw : I 50 31 = 0 ∨ I 50 31 = 1) : SpV G mX5_passAll 1 22 0 0 [.ref 50] K N I (pV K N (fun J => PA I J o 85)) := by
  refine SpV.of (own := RX5) (cc := cX5_passAll) (L := [some (.ref 50), none]) (by decide) rfl rfl (Nat.le_of_ble_eq_true rfl) rfl (fun Fx hnm hret => ?_)
  have r0 : PA I I o 0 := by
    rcases hw with e | e
    · exact Or.inl ⟨e, fun _ _ _ _ _ => rfl, hp, fun a b q => absurd q (Nat.not_lt_zero _), fun _ => rfl⟩
    · exact Or.inr ⟨e, fun _ _ _ _ => rfl, hp, fun a b q => absurd q (Nat.not_lt_zero _), fun _ _ => rfl⟩
  have p0 := r0.at (by decide)
  obtain ⟨J0, e0⟩ : ∃ J0, J0 = I := ⟨_, rfl⟩
  rw [← e0] at p0
  have r0 : PA I J0 o 0 := by rw [e0]; exact r0
  have lp2 : ∀ (m : Nat) (k : Nat) (z : Int) (J : MM), k ≤ 8 → 8 < k + m → z = (k : Int) → PA I J o (69 + 2 * k) → XX G RX5 cX5_passAll (RmW 1 22 0 0) Fx 104 [some (.ref 50), some (vi z)] [] K N J 0 0 := by
    intro m
    induction m with
    | zero => intros; exfalso; omega
    | succ m ih =>
      intro k z J h0 h1 h2 h3
      have p1 := h3.at (by omega)
      have i1 : k < 8 → ixI 52 k = 69 + 2 * k := fun hk => by have := ix_c 52 k; unfold ixI; rw [if_neg (by decide), if_neg (by omega), if_pos ⟨rfl, hk⟩]
      have i2 : k < 8 → ixI 53 k = 69 + 2 * k + 1 := fun hk => by unfold ixI; rw [if_neg (by decide), if_neg (by omega), if_neg (by omega), if_pos ⟨rfl, hk⟩]; omega
      refine x_iload_n dX5_passAll_104 rfl ?_
      refine x_bipush dX5_passAll_105 (by decide) ?_
      refine x_icmp_ge 148 dX5_passAll_107 (by decide) (by unfold inr; omega) (by unfold inr; omega) (fun h_107 => ?_) (fun h_107 => ?_)
      · refine hret _ _ _ _ _ dX5_passAll_148 ?_
        obtain rfl : k = 8 := by omega
        exact ⟨rfl, rfl, h3⟩
      · refine x_aload_n dX5_passAll_110 rfl ?_
        refine x_getR (j := 52) dX5_passAll_111 gf_RX5_13 rfl rfl (hN _ _ (by decide)) ?_
        refine x_iload_n dX5_passAll_114 rfl ?_
        refine x_aload_n dX5_passAll_115 rfl ?_
        refine x_aload_n dX5_passAll_116 rfl ?_
        refine x_getR (j := 52) dX5_passAll_117 gf_RX5_13 rfl rfl (hN _ _ (by decide)) ?_
        refine x_iload_n dX5_passAll_120 rfl ?_
        refine x_iald (k) dX5_passAll_121 rfl h2 (show _ < 8 by omega) ?_
        refine xf_VI1 dX5_passAll_122 ml_RX5_259 vw_X5_pass vv_X5_pass rfl (sp_mpass hN p1.1 (by omega) p1.2.2) ⟨Nat.le_of_ble_eq_true rfl, Nat.le_of_ble_eq_true rfl, Nat.le_of_ble_eq_true rfl, Nat.le_of_ble_eq_true rfl, Nat.le_of_ble_eq_true rfl⟩ ?_
        refine x_iast (k) dX5_passAll_125 rfl h2 (show _ < 8 by omega) ?_
        have r2 := h3.st (a := 52) (b := k) (i1 (by omega)) (by omega)
        obtain ⟨J2, e2⟩ : ∃ J2, J2 = up (up (up J 65 (o + (69 + 2 * k)) (if J 50 31 = 0 then J 65 (o + (69 + 2 * k)) else J 52 k)) 50 30 (((o + (69 + 2 * k) : Nat) : Int) + 1)) 52 k (if J 50 31 = 0 then J 65 (o + (69 + 2 * k)) else J 52 k) := ⟨_, rfl⟩
        rw [← e2] at r2 ⊢
        have p2 := r2.at (by omega)
        refine x_aload_n dX5_passAll_126 rfl ?_
        refine x_getR (j := 53) dX5_passAll_127 gf_RX5_16 rfl rfl (hN _ _ (by decide)) ?_
        refine x_iload_n dX5_passAll_130 rfl ?_
        refine x_aload_n dX5_passAll_131 rfl ?_
        refine x_aload_n dX5_passAll_132 rfl ?_
        refine x_getR (j := 53) dX5_passAll_133 gf_RX5_16 rfl rfl (hN _ _ (by decide)) ?_
        refine x_iload_n dX5_passAll_136 rfl ?_
        refine x_iald (k) dX5_passAll_137 rfl h2 (show _ < 8 by omega) ?_
        refine xf_VI1 dX5_passAll_138 ml_RX5_259 vw_X5_pass vv_X5_pass rfl (sp_mpass hN p2.1 (by omega) p2.2.2) ⟨Nat.le_of_ble_eq_true rfl, Nat.le_of_ble_eq_true rfl, Nat.le_of_ble_eq_true rfl, Nat.le_of_ble_eq_true rfl, Nat.le_of_ble_eq_true rfl⟩ ?_
        refine x_iast (k) dX5_passAll_141 rfl h2 (show _ < 8 by omega) ?_
        have r3 := r2.st (a := 53) (b := k) (i2 (by omega)) (by omega)
        refine x_inc1 dX5_passAll_142 ?_
        refine x_goto 104 dX5_passAll_145 (by decide) ?_
        exact ih (k + 1) _ _ (by omega) (by omega) (by omega) r3
  have lp : ∀ (m : Nat) (k : Nat) (z : Int) (J : MM), k ≤ 63 → 63 < k + m → z = (k : Int) → PA I J o (6 + k) → XX G RX5 cX5_passAll (RmW 1 22 0 0) Fx 74 [some (.ref 50), some (vi z)] [] K N J 0 0 := by
    intro m
    induction m with
    | zero => intros; exfalso; omega
    | succ m ih =>
      intro k z J h0 h1 h2 h3
      have p1 := h3.at (by omega)
      have i1 : k < 63 → ixI 51 k = 6 + k := fun hk => by unfold ixI; rw [if_neg (by decide), if_pos ⟨rfl, hk⟩]
      refine x_iload_n dX5_passAll_74 rfl ?_
      refine x_bipush dX5_passAll_75 (by decide) ?_
      refine x_icmp_ge 102 dX5_passAll_77 (by decide) (by unfold inr; omega) (by unfold inr; omega) (fun h_77 => ?_) (fun h_77 => ?_)
      · refine x_iconst dX5_passAll_102 ?_
        refine x_ist1 dX5_passAll_103 ?_
        obtain rfl : k = 63 := by omega
        exact lp2 9 0 _ _ (by omega) (by omega) rfl h3
      · refine x_aload_n dX5_passAll_80 rfl ?_
        refine x_getR (j := 51) dX5_passAll_81 gf_RX5_7 rfl rfl (hN _ _ (by decide)) ?_
        refine x_iload_n dX5_passAll_84 rfl ?_
        refine x_aload_n dX5_passAll_85 rfl ?_
        refine x_aload_n dX5_passAll_86 rfl ?_
        refine x_getR (j := 51) dX5_passAll_87 gf_RX5_7 rfl rfl (hN _ _ (by decide)) ?_
        refine x_iload_n dX5_passAll_90 rfl ?_
        refine x_iald (k) dX5_passAll_91 rfl h2 (show _ < 63 by omega) ?_
        refine xf_VI1 dX5_passAll_92 ml_RX5_259 vw_X5_pass vv_X5_pass rfl (sp_mpass hN p1.1 (by omega) p1.2.2) ⟨Nat.le_of_ble_eq_true rfl, Nat.le_of_ble_eq_true rfl, Nat.le_of_ble_eq_true rfl, Nat.le_of_ble_eq_true rfl, Nat.le_of_ble_eq_true rfl⟩ ?_
        refine x_iast (k) dX5_passAll_95 rfl h2 (show _ < 63 by omega) ?_
        have r3 := h3.st (a := 51) (b := k) (i1 (by omega)) (by omega)
        refine x_inc1 dX5_passAll_96 ?_
        refine x_goto 74 dX5_passAll_99 (by decide) ?_
        exact ih (k + 1) _ _ (by omega) (by omega) (by omega) r3
  rw [← e0]
  refine x_aload_n dX5_passAll_0 rfl ?_
  refine x_aload_n dX5_passAll_1 rfl ?_
  refine x_aload_n dX5_passAll_2 rfl ?_
  refine x_getI dX5_passAll_3 gf_RX5_73 rfl rfl ?_
  refine xf_VI1 dX5_passAll_6 ml_RX5_259 vw_X5_pass vv_X5_pass rfl (sp_mpass hN p0.1 (by omega) p0.2.2) ⟨Nat.le_of_ble_eq_true rfl, Nat.le_of_ble_eq_true rfl, Nat.le_of_ble_eq_true rfl, Nat.le_of_ble_eq_true rfl, Nat.le_of_ble_eq_true rfl⟩ ?_
  refine x_putI dX5_passAll_9 pf_RX5_73 rfl rfl ?_
  have r1 := r0.st (a := 50) (b := 0) (by decide) (by decide)
  obtain ⟨J1, e1⟩ : ∃ J1, J1 = up (up (up J0 65 (o + 0) (if J0 50 31 = 0 then J0 65 (o + 0) else J0 50 0)) 50 30 (((o + 0 : Nat) : Int) + 1)) 50 0 (if J0 50 31 = 0 then J0 65 (o + 0) else J0 50 0) := ⟨_, rfl⟩
  rw [← e1] at r1 ⊢
  have p1 := r1.at (by decide)
  refine x_aload_n dX5_passAll_12 rfl ?_
  refine x_aload_n dX5_passAll_13 rfl ?_
  refine x_aload_n dX5_passAll_14 rfl ?_
  refine x_getI dX5_passAll_15 gf_RX5_66 rfl rfl ?_
  refine xf_VI1 dX5_passAll_18 ml_RX5_259 vw_X5_pass vv_X5_pass rfl (sp_mpass hN p1.1 (by omega) p1.2.2) ⟨Nat.le_of_ble_eq_true rfl, Nat.le_of_ble_eq_true rfl, Nat.le_of_ble_eq_true rfl, Nat.le_of_ble_eq_true rfl, Nat.le_of_ble_eq_true rfl⟩ ?_
  refine x_putI dX5_passAll_21 pf_RX5_66 rfl rfl ?_
  have r2 := r1.st (a := 50) (b := 2) (by decide) (by decide)
  obtain ⟨J2, e2⟩ : ∃ J2, J2 = up (up (up J1 65 (o + 1) (if J1 50 31 = 0 then J1 65 (o + 1) else J1 50 2)) 50 30 (((o + 1 : Nat) : Int) + 1)) 50 2 (if J1 50 31 = 0 then J1 65 (o + 1) else J1 50 2) := ⟨_, rfl⟩
  rw [← e2] at r2 ⊢
  have p2 := r2.at (by decide)
  refine x_aload_n dX5_passAll_24 rfl ?_
  refine x_aload_n dX5_passAll_25 rfl ?_
  refine x_aload_n dX5_passAll_26 rfl ?_
  refine x_getI dX5_passAll_27 gf_RX5_59 rfl rfl ?_
  refine xf_VI1 dX5_passAll_30 ml_RX5_259 vw_X5_pass vv_X5_pass rfl (sp_mpass hN p2.1 (by omega) p2.2.2) ⟨Nat.le_of_ble_eq_true rfl, Nat.le_of_ble_eq_true rfl, Nat.le_of_ble_eq_true rfl, Nat.le_of_ble_eq_true rfl, Nat.le_of_ble_eq_true rfl⟩ ?_
  refine x_putI dX5_passAll_33 pf_RX5_59 rfl rfl ?_
  have r3 := r2.st (a := 50) (b := 3) (by decide) (by decide)
  obtain ⟨J3, e3⟩ : ∃ J3, J3 = up (up (up J2 65 (o + 2) (if J2 50 31 = 0 then J2 65 (o + 2) else J2 50 3)) 50 30 (((o + 2 : Nat) : Int) + 1)) 50 3 (if J2 50 31 = 0 then J2 65 (o + 2) else J2 50 3) := ⟨_, rfl⟩
  rw [← e3] at r3 ⊢
  have p3 := r3.at (by decide)
  refine x_aload_n dX5_passAll_36 rfl ?_
  refine x_aload_n dX5_passAll_37 rfl ?_
  refine x_aload_n dX5_passAll_38 rfl ?_
  refine x_getI dX5_passAll_39 gf_RX5_63 rfl rfl ?_
  refine xf_VI1 dX5_passAll_42 ml_RX5_259 vw_X5_pass vv_X5_pass rfl (sp_mpass hN p3.1 (by omega) p3.2.2) ⟨Nat.le_of_ble_eq_true rfl, Nat.le_of_ble_eq_true rfl, Nat.le_of_ble_eq_true rfl, Nat.le_of_ble_eq_true rfl, Nat.le_of_ble_eq_true rfl⟩ ?_
  refine x_putI dX5_passAll_45 pf_RX5_63 rfl rfl ?_
  have r4 := r3.st (a := 50) (b := 4) (by decide) (by decide)
  obtain ⟨J4, e4⟩ : ∃ J4, J4 = up (up (up J3 65 (o + 3) (if J3 50 31 = 0 then J3 65 (o + 3) else J3 50 4)) 50 30 (((o + 3 : Nat) : Int) + 1)) 50 4 (if J3 50 31 = 0 then J3 65 (o + 3) else J3 50 4) := ⟨_, rfl⟩
  rw [← e4] at r4 ⊢
  have p4 := r4.at (by decide)
  refine x_aload_n dX5_passAll_48 rfl ?_
  refine x_aload_n dX5_passAll_49 rfl ?_
  refine x_aload_n dX5_passAll_50 rfl ?_
  refine x_getI dX5_passAll_51 gf_RX5_76 rfl rfl ?_
  refine xf_VI1 dX5_passAll_54 ml_RX5_259 vw_X5_pass vv_X5_pass rfl (sp_mpass hN p4.1 (by omega) p4.2.2) ⟨Nat.le_of_ble_eq_true rfl, Nat.le_of_ble_eq_true rfl, Nat.le_of_ble_eq_true rfl, Nat.le_of_ble_eq_true rfl, Nat.le_of_ble_eq_true rfl⟩ ?_
  refine x_putI dX5_passAll_57 pf_RX5_76 rfl rfl ?_
  have r5 := r4.st (a := 50) (b := 5) (by decide) (by decide)
  obtain ⟨J5, e5⟩ : ∃ J5, J5 = up (up (up J4 65 (o + 4) (if J4 50 31 = 0 then J4 65 (o + 4) else J4 50 5)) 50 30 (((o + 4 : Nat) : Int) + 1)) 50 5 (if J4 50 31 = 0 then J4 65 (o + 4) else J4 50 5) := ⟨_, rfl⟩
  rw [← e5] at r5 ⊢
  have p5 := r5.at (by decide)
  refine x_aload_n dX5_passAll_60 rfl ?_
  refine x_aload_n dX5_passAll_61 rfl ?_
  refine x_aload_n dX5_passAll_62 rfl ?_
  refine x_getI dX5_passAll_63 gf_RX5_79 rfl rfl ?_
  refine xf_VI1 dX5_passAll_66 ml_RX5_259 vw_X5_pass vv_X5_pass rfl (sp_mpass hN p5.1 (by omega) p5.2.2) ⟨Nat.le_of_ble_eq_true rfl, Nat.le_of_ble_eq_true rfl, Nat.le_of_ble_eq_true rfl, Nat.le_of_ble_eq_true rfl, Nat.le_of_ble_eq_true rfl⟩ ?_
  refine x_putI dX5_passAll_69 pf_RX5_79 rfl rfl ?_
  have r6 := r5.st (a := 50) (b := 8) (by decide) (by decide)
  obtain ⟨J6, e6⟩ : ∃ J6, J6 = up (up (up J5 65 (o + 5) (if J5 50 31 = 0 then J5 65 (o + 5) else J5 50 8)) 50 30 (((o + 5 : Nat) : Int) + 1)) 50 8 (if J5 50 31 = 0 then J5 65 (o + 5) else J5 50 8) := ⟨_, rfl⟩
  rw [← e6] at r6 ⊢
  have p6 := r6.at (by decide)
  refine x_iconst dX5_passAll_72 ?_
  refine x_ist1 dX5_passAll_73 ?_
  exact lp 64 0 _ _ (by omega) (by omega) rfl r6
def imM (I J : MM) (i : Nat) : Prop := (∀ a b, a ≠ 65 → ¬ (a = 66 ∧ b = i) → ¬ (a = 50 ∧ (b = 30 ∨ b = 31)) → J a b = I a b) ∧ J 66 i = 1 ∧ (∀ a b, ixI a b < 85 → J 65 (100 * i + ixI a b) = I a b) ∧ (∀ b, b < 100 * i ∨ 100 * i + 85 ≤ b → J 65 b = I 65 b)
def reM (I J : MM) (i : Nat) : Prop := (∀ a b, ixI a b = 85 → ¬ (a = 50 ∧ (b = 30 ∨ b = 31)) → J a b = I a b) ∧ (∀ a b, ixI a b < 85 → J a b = I 65 (100 * i + ixI a b))
theorem ix_le (a b : Nat) : ixI a b ≤ 85 := by have := ix_c a b; omega
theorem sp_mimage (hN : NS N) {f : Int} (hf : inr f) : SpI G mX5_image .int 2 43 0 0 [.ref 50, vi f] K N I (pI K N (fun z J => (¬ (0 ≤ f ∧ f ≤ 1) ∧ z = -2 ∧ J = I) ∨ ((0 ≤ f ∧ f ≤ 1) ∧ z = 1 ∧ imM I J f.toNat))) := by
  refine SpI.of (own := RX5) (cc := cX5_image) (L := [some (.ref 50), some (vi f)]) (by decide) rfl rfl (Nat.le_of_ble_eq_true rfl) rfl (fun Fx hnm hret => ?_)
  refine x_iload_n dX5_image_0 rfl ?_
  refine x_i2l dX5_image_1 hf ?_
  refine x_lconst0 dX5_image_2 ?_
  refine x_lconst1 dX5_image_3 ?_
  refine xf_SI3 dX5_image_4 ml_RX5_86 vw_X5_in st_X5_in (sp_in (by unfold inl; unfold inr at hf; omega) (by unfold inl; omega) (by unfold inl; omega)) ⟨Nat.le_of_ble_eq_true rfl, Nat.le_of_ble_eq_true rfl, Nat.le_of_ble_eq_true rfl, Nat.le_of_ble_eq_true rfl, Nat.le_of_ble_eq_true rfl⟩ ?_
  refine x_if_ne 13 dX5_image_7 (by decide) (by unfold inr; split <;> omega) (fun h_7 => ?_) (fun h_7 => ?_)
  · replace h_7 := b1 h_7
    obtain ⟨i, rfl⟩ := toN (show 0 ≤ f by omega)
    refine x_aload_n dX5_image_13 rfl ?_
    refine x_bipush dX5_image_14 (by decide) ?_
    refine x_iload_n dX5_image_16 rfl ?_
    refine x_imul dX5_image_17 ?_
    refine x_putI dX5_image_18 pf_RX5_256 rfl rfl ?_
    refine x_aload_n dX5_image_21 rfl ?_
    refine x_iconst dX5_image_22 ?_
    refine x_putZ dX5_image_23 pf_RX5_252 (by omega) rfl rfl ?_
    refine x_aload_n dX5_image_26 rfl ?_
    refine xp_VV0 dX5_image_27 ml_RX5_262 vw_X5_passAll vv_X5_passAll rfl (sp_passAll hN (o := 100 * i) (by omega) (by rw [up_n2 (by omega), up_s]; omega) (Or.inr up_s)) ⟨Nat.le_of_ble_eq_true rfl, Nat.le_of_ble_eq_true rfl, Nat.le_of_ble_eq_true rfl, Nat.le_of_ble_eq_true rfl, Nat.le_of_ble_eq_true rfl⟩ (fun I1 hq => ?_)
    rcases hq with ⟨e, -⟩ | ⟨-, r1, r2, r3, r4⟩
    · rw [up_s] at e; exact absurd e (by decide)
    refine x_aload_n dX5_image_30 rfl ?_
    refine x_getR (j := 66) dX5_image_31 gf_RX5_55 rfl rfl (hN _ _ (by decide)) ?_
    refine x_iload_n dX5_image_34 rfl ?_
    refine x_iconst dX5_image_35 ?_
    refine x_bast (i) dX5_image_36 (by omega) rfl (by omega) (show _ < 2 by omega) ?_
    refine x_iconst dX5_image_37 ?_
    refine hret _ _ _ _ _ _ dX5_image_38 rfl ?_
    refine ⟨rfl, rfl, Or.inr ⟨by omega, rfl, fun a b q1 q2 q3 => ?_, up_s, fun a b q1 => ?_, fun b q1 => ?_⟩⟩
    · rw [show ((i : Nat) : Int).toNat = i from rfl] at q2
      rw [up_n q2, r1 a b q1 (by omega), up_n (by omega), up_n (by omega)]
    · rw [up_n1 (by decide)]
      have h0 := ix_c a b
      refine (r3 a b q1).trans ?_
      rw [up_n (by omega), up_n (by omega)]
    · rw [up_n1 (by decide), r4 b q1, up_n1 (by decide), up_n1 (by decide)]
  · replace h_7 := b0 h_7
    refine x_bipush dX5_image_10 (by decide) ?_
    refine hret _ _ _ _ _ _ dX5_image_12 rfl ?_
    exact ⟨rfl, rfl, Or.inl ⟨by omega, rfl, rfl⟩⟩
theorem sp_mrestore (hN : NS N) (hb : ∀ i, i < 2 → I 66 i = 0 ∨ I 66 i = 1) {f : Int} (hf : inr f) : SpI G mX5_restore .int 2 43 0 0 [.ref 50, vi f] K N I (pI K N (fun z J => (¬ (0 ≤ f ∧ f ≤ 1) ∧ z = -2 ∧ J = I) ∨ ((0 ≤ f ∧ f ≤ 1) ∧ I 66 f.toNat = 0 ∧ z = -3 ∧ J = I) ∨ ((0 ≤ f ∧ f ≤ 1) ∧ I 66 f.toNat = 1 ∧ z = 1 ∧ reM I J f.toNat))) := by
  refine SpI.of (own := RX5) (cc := cX5_restore) (L := [some (.ref 50), some (vi f)]) (by decide) rfl rfl (Nat.le_of_ble_eq_true rfl) rfl (fun Fx hnm hret => ?_)
  refine x_iload_n dX5_restore_0 rfl ?_
  refine x_i2l dX5_restore_1 hf ?_
  refine x_lconst0 dX5_restore_2 ?_
  refine x_lconst1 dX5_restore_3 ?_
  refine xf_SI3 dX5_restore_4 ml_RX5_86 vw_X5_in st_X5_in (sp_in (by unfold inl; unfold inr at hf; omega) (by unfold inl; omega) (by unfold inl; omega)) ⟨Nat.le_of_ble_eq_true rfl, Nat.le_of_ble_eq_true rfl, Nat.le_of_ble_eq_true rfl, Nat.le_of_ble_eq_true rfl, Nat.le_of_ble_eq_true rfl⟩ ?_
  refine x_if_ne 13 dX5_restore_7 (by decide) (by unfold inr; split <;> omega) (fun h_7 => ?_) (fun h_7 => ?_)
  · replace h_7 := b1 h_7
    obtain ⟨i, rfl⟩ := toN (show 0 ≤ f by omega)
    have hbi := hb i (by omega)
    refine x_aload_n dX5_restore_13 rfl ?_
    refine x_getR (j := 66) dX5_restore_14 gf_RX5_55 rfl rfl (hN _ _ (by decide)) ?_
    refine x_iload_n dX5_restore_17 rfl ?_
    refine x_bald (i) dX5_restore_18 rfl (by omega) (show _ < 2 by omega) ?_
    refine x_if_ne 25 dX5_restore_19 (by decide) (by have := hb i (by omega); unfold inr; omega) (fun h_19 => ?_) (fun h_19 => ?_)
    · refine x_aload_n dX5_restore_25 rfl ?_
      refine x_bipush dX5_restore_26 (by decide) ?_
      refine x_iload_n dX5_restore_28 rfl ?_
      refine x_imul dX5_restore_29 ?_
      refine x_putI dX5_restore_30 pf_RX5_256 rfl rfl ?_
      refine x_aload_n dX5_restore_33 rfl ?_
      refine x_iconst dX5_restore_34 ?_
      refine x_putZ dX5_restore_35 pf_RX5_252 (by omega) rfl rfl ?_
      refine x_aload_n dX5_restore_38 rfl ?_
      refine xp_VV0 dX5_restore_39 ml_RX5_262 vw_X5_passAll vv_X5_passAll rfl (sp_passAll hN (o := 100 * i) (by omega) (by rw [up_n2 (by omega), up_s]; omega) (Or.inl up_s)) ⟨Nat.le_of_ble_eq_true rfl, Nat.le_of_ble_eq_true rfl, Nat.le_of_ble_eq_true rfl, Nat.le_of_ble_eq_true rfl, Nat.le_of_ble_eq_true rfl⟩ (fun I1 hq => ?_)
      rcases hq with ⟨-, r1, r2, r3, r4⟩ | ⟨e, -⟩
      case inr => rw [up_s] at e; exact absurd e (by decide)
      refine x_iconst dX5_restore_42 ?_
      refine hret _ _ _ _ _ _ dX5_restore_43 rfl ?_
      refine ⟨rfl, rfl, Or.inr (Or.inr ⟨by omega, ?_, rfl, fun a b q1 q2 => ?_, fun a b q1 => ?_⟩)⟩
      · rw [show ((i : Nat) : Int).toNat = i from rfl]; omega
      · by_cases y : a = 65
        · rw [y, r4, up_n1 (by decide), up_n1 (by decide)]
        · rw [r1 a b (by omega) y (by omega), up_n (by omega), up_n (by omega)]
      · refine (r3 a b q1).trans ?_
        rw [up_n1 (by decide), up_n1 (by decide)]; rfl
    · refine x_bipush dX5_restore_22 (by decide) ?_
      refine hret _ _ _ _ _ _ dX5_restore_24 rfl ?_
      exact ⟨rfl, rfl, Or.inr (Or.inl ⟨by omega, h_19, rfl, rfl⟩)⟩
  · replace h_7 := b0 h_7
    refine x_bipush dX5_restore_10 (by decide) ?_
    refine hret _ _ _ _ _ _ dX5_restore_12 rfl ?_
    exact ⟨rfl, rfl, Or.inl ⟨by omega, rfl, rfl⟩⟩
end FR

/-! ===== the reference: farms, facts, signs, what flows ===== -/
/-- fact k of farm f, as the reference holds it -/
def fm (I : MM) (f k : Nat) : Int := if f < 9 ∧ k < 7 then I 51 (9 * k + f) else 0
theorem fm_at {I : MM} {f k : Nat} (h : f < 9 ∧ k < 7) : fm I f k = I 51 (9 * k + f) := if_pos h
theorem fm_eq {I J : MM} (h : ∀ j, J 51 j = I 51 j) : fm J = fm I := by
  funext f k; unfold fm; rw [h]
theorem fm_put {I : MM} {f k : Nat} {v : Int} (h : f < 9 ∧ k < 7) : fm (up I 51 (9 * k + f) v) = setF (fm I) f k v := by
  funext g j
  simp only [fm, setF, up]
  by_cases h1 : g < 9 ∧ j < 7
  · rw [if_pos h1, if_pos h1]
    by_cases h2 : g = f ∧ j = k
    · obtain ⟨rfl, rfl⟩ := h2
      simp
    · rw [if_neg h2, if_neg (by omega)]
  · rw [if_neg h1, if_neg h1, if_neg (by omega)]
def l0M (I : MM) (kn : Int) : Int := max 0 (I 50 2 + (if kn = 3 then I 50 3 else 0) - (if kn = 1 then I 50 4 else 0))
theorem l0M_eq {I J : MM} {kn : Int} (h2 : J 50 2 = I 50 2) (h3 : J 50 3 = I 50 3) (h4 : J 50 4 = I 50 4) : l0M J kn = l0M I kn := by unfold l0M; rw [h2, h3, h4]
/-- what the reference's numbers keep to -/
def RM (I : MM) (n : Nat) : Prop := I 50 0 = (n : Int) ∧ 1 ≤ n ∧ n ≤ 9 ∧ okD (fm I) n 1000000 ∧ (0 ≤ I 50 2 ∧ I 50 2 ≤ 99) ∧ (0 ≤ I 50 3 ∧ I 50 3 ≤ 50) ∧ (0 ≤ I 50 4 ∧ I 50 4 ≤ 50)
theorem RM.of {I J : MM} {n : Nat} (h : RM I n) (h0 : J 50 0 = I 50 0) (hf : fm J = fm I) (h2 : J 50 2 = I 50 2) (h3 : J 50 3 = I 50 3) (h4 : J 50 4 = I 50 4) : RM J n := by
  unfold RM at *; rw [h0, hf, h2, h3, h4]; exact h
theorem RM.l0 {I : MM} {n : Nat} (h : RM I n) (kn : Int) : 0 ≤ l0M I kn ∧ l0M I kn ≤ 149 := by
  obtain ⟨-, -, -, -, h0, h1, h2⟩ := h
  unfold l0M
  split <;> split <;> omega
theorem RM.lv {I : MM} {n : Nat} (h : RM I n) (kn : Int) (f : Nat) (hf : f ≤ n) : 0 ≤ lva (fm I) kn (l0M I kn) f ∧ lva (fm I) kn (l0M I kn) f ≤ 149 :=
  lva_b (h.l0 kn) f (fun g hg => by have := h.2.2.2.1 g (by omega); omega)
theorem RM.tokb {I : MM} {n f : Nat} {kn : Int} (h : RM I n) (hf : f < n) : 0 ≤ tok (fm I) kn (l0M I kn) f ∧ tok (fm I) kn (l0M I kn) f ≤ 9 := h.2.2.2.1.tokb hf
theorem RM.put {I : MM} {n f k : Nat} {v : Int} (h : RM I n) (hf : f < 9 ∧ k < 7) (hv : okF k v) : RM (up I 51 (9 * k + f) v) n := by
  obtain ⟨a1, a2, a3, a4, a5, a6, a7⟩ := h
  refine ⟨by rw [up_n1 (by omega)]; exact a1, a2, a3, ?_, by rw [up_n1 (by omega)]; exact a5, by rw [up_n1 (by omega)]; exact a6, by rw [up_n1 (by omega)]; exact a7⟩
  rw [fm_put hf]
  intro g hg
  have h1 := a4 g hg
  obtain ⟨v0, w0, w1, w2, w3, w4, w5, w6⟩ := hv
  unfold setF
  by_cases hgf : g = f
  · subst hgf
    refine ⟨?_, ?_, ?_, ?_, ?_, ?_, ?_⟩ <;> (split <;> omega)
  · simp only [hgf, false_and, if_false]; exact h1
/-- what a call that only asks leaves: all of the class's, and what the reference keeps -/
def pcm (a k : Nat) : Prop := a < 50 ∨ (51 ≤ a ∧ a ≤ 54) ∨ 65 ≤ a ∨ (a = 50 ∧ (k = 0 ∨ k = 2 ∨ k = 3 ∨ k = 4 ∨ k = 5 ∨ k = 8 ∨ k = 10))
def kpM (I J : MM) : Prop := ∀ a k, pcm a k → J a k = I a k
theorem kpM.rf {I : MM} : kpM I I := fun _ _ _ => rfl
theorem kpM.tr {I J J2 : MM} (h : kpM I J) (h2 : kpM J J2) : kpM I J2 := fun a k q => (h2 a k q).trans (h a k q)
theorem kpM.upp {I J : MM} {i j : Nat} {v : Int} (h : kpM I J) (hi : ¬ pcm i j) : kpM I (up J i j v) := fun a k q => by
  simp only [up]; rw [if_neg (by rintro ⟨rfl, rfl⟩; exact hi q)]; exact h a k q
theorem kpM.upc {I J : MM} {i j : Nat} {v : Int} (h : kpM I J) (hi : 55 ≤ i ∧ i ≤ 64) : kpM I (up J i j v) := h.upp (by unfold pcm; omega)
theorem kpM.fm {I J : MM} (h : kpM I J) : fm J = fm I := fm_eq (fun j => h 51 j (by unfold pcm; omega))
theorem kpM.l0 {I J : MM} (h : kpM I J) {kn : Int} : l0M J kn = l0M I kn := l0M_eq (h 50 2 (by unfold pcm; omega)) (h 50 3 (by unfold pcm; omega)) (h 50 4 (by unfold pcm; omega))
theorem kpM.RM {I J : MM} {n : Nat} (h : kpM I J) (hB : RM I n) : RM J n := hB.of (h 50 0 (by unfold pcm; omega)) h.fm (h 50 2 (by unfold pcm; omega)) (h 50 3 (by unfold pcm; omega)) (h 50 4 (by unfold pcm; omega))
def fmS (I : MM) (kn : Int) (n : Nat) : MM := fun a k => if a = 57 ∧ k < n then tok (fm I) kn (l0M I kn) k else if a = 58 ∧ k < n then sto (fm I) kn (l0M I kn) k else I a k
def fmJ (I : MM) (kn : Int) (n : Nat) : MM := fun a k => if a = 50 ∧ k = 16 then lva (fm I) kn (l0M I kn) n else fmS I kn n a k
theorem fmS_o {I : MM} {kn : Int} {n a k : Nat} (h : a < 57 ∨ 58 < a) : fmS I kn n a k = I a k := by unfold fmS; rw [if_neg (by omega), if_neg (by omega)]
theorem fmJ_o {I : MM} {kn : Int} {n a k : Nat} (h : a < 57 ∨ 58 < a) (h2 : ¬ (a = 50 ∧ k = 16)) : fmJ I kn n a k = I a k := by unfold fmJ; rw [if_neg h2]; exact fmS_o h
theorem fmJ_t {I : MM} {kn : Int} {n k : Nat} (h : k < n) : fmJ I kn n 57 k = tok (fm I) kn (l0M I kn) k := by unfold fmJ fmS; rw [if_neg (by omega), if_pos ⟨rfl, h⟩]
theorem fmJ_s {I : MM} {kn : Int} {n k : Nat} (h : k < n) : fmJ I kn n 58 k = sto (fm I) kn (l0M I kn) k := by unfold fmJ fmS; rw [if_neg (by omega), if_neg (by omega), if_pos ⟨rfl, h⟩]
theorem fmJ_l {I : MM} {kn : Int} {n : Nat} : fmJ I kn n 50 16 = lva (fm I) kn (l0M I kn) n := by unfold fmJ; rw [if_pos ⟨rfl, rfl⟩]
theorem kpM.fl {I J : MM} {n : Nat} {kn : Int} (h : kpM I J) : kpM I (fmJ J kn n) := fun a k q => by
  rw [fmJ_o (by unfold pcm at q; omega) (by unfold pcm at q; omega)]; exact h a k q
theorem fmS_st {I : MM} {kn l v : Int} {f : Nat} (hl : l = sto (fm I) kn (l0M I kn) f) (hv : v = tok (fm I) kn (l0M I kn) f) : up (up (fmS I kn f) 58 f l) 57 f v = fmS I kn (f + 1) := by
  funext a k
  unfold up fmS
  by_cases h1 : a = 57 ∧ k = f
  · obtain ⟨rfl, rfl⟩ := h1
    rw [if_pos ⟨rfl, rfl⟩, if_pos ⟨rfl, by omega⟩, hv]
  · rw [if_neg h1]
    by_cases h2 : a = 58 ∧ k = f
    · obtain ⟨rfl, rfl⟩ := h2
      rw [if_pos ⟨rfl, rfl⟩, if_neg (by omega), if_pos ⟨rfl, by omega⟩, hl]
    · rw [if_neg h2]
      by_cases h3 : a = 57 ∧ k < f
      · rw [if_pos h3, if_pos ⟨h3.1, by omega⟩]
      · rw [if_neg h3, if_neg (show ¬ (a = 57 ∧ k < f + 1) by omega)]
        by_cases h4 : a = 58 ∧ k < f
        · rw [if_pos h4, if_pos ⟨h4.1, by omega⟩]
        · rw [if_neg h4, if_neg (by omega)]
theorem nbz {p : Prop} [Decidable p] : narrow .boolean (vi (if p then 1 else 0)) = vi (if p then 1 else 0) := by
  split <;> rfl
theorem ifq {p q : Prop} [Decidable p] [Decidable q] (h : p ↔ q) : (if p then (1 : Int) else 0) = (if q then 1 else 0) := by
  by_cases z : p
  · rw [if_pos z, if_pos (h.mp z)]
  · rw [if_neg z, if_neg (fun y => z (h.mpr y))]
theorem lc_b (a b : Int) : ((if a < b then -1 else if a = b then 0 else 1 : Int) < 0 ↔ a < b) ∧ (0 < (if a < b then -1 else if a = b then 0 else 1 : Int) ↔ b < a) := by
  by_cases h : a < b
  · rw [if_pos h]; omega
  · rw [if_neg h]
    by_cases h2 : a = b
    · rw [if_pos h2]; omega
    · rw [if_neg h2]; omega
def tkA (F : FT) (kn l : Int) (f : Nat) : Int := if F f 4 ≠ 0 ∨ (kn = 2 ∧ F f 3 ≠ 0) then 0 else min (F f 1) (max 0 (l - F f 0))
def bmS (I : MM) (z : Int) (c : Nat) : MM := fun a k => if a = 50 ∧ k = 0 then z else if a = 50 ∧ (k = 5 ∨ k = 8) then 0 else if a = 51 ∧ k < c then fst7 (k / 9) else I a k
theorem bmS_st {I : MM} {z : Int} {j f : Nat} (hf : f < 9) : up (bmS I z (9 * j + f)) 51 (9 * j + f) (fst7 j) = bmS I z (9 * j + (f + 1)) := by
  funext a k
  unfold up bmS
  by_cases h1 : a = 51 ∧ k = 9 * j + f
  · obtain ⟨rfl, rfl⟩ := h1
    rw [if_pos ⟨rfl, rfl⟩, if_neg (by omega), if_neg (by omega), if_pos ⟨rfl, by omega⟩, show (9 * j + f) / 9 = j by omega]
  · rw [if_neg h1]
    by_cases h2 : a = 51 ∧ k < 9 * j + f
    · rw [if_neg (by omega), if_neg (by omega), if_pos h2, if_neg (by omega), if_neg (by omega), if_pos ⟨h2.1, by omega⟩]
    · rw [if_neg h2, if_neg (show ¬ (a = 51 ∧ k < 9 * j + (f + 1)) by omega)]
section FR
variable {G : GT} {K : List Nat} {N : NN} {I : MM} {n : Nat}
theorem sp_in {a b c : Int} (ha : inl a) (hb : inl b) (hc : inl c) : SpI G mX5_in .boolean 0 0 0 0 [vl a, vl b, vl c] K N I (qI K N I (if b ≤ a ∧ a ≤ c then 1 else 0)) := by
  refine SpI.of (own := RX5) (cc := cX5_in) (L := [some (vl a), none, some (vl b), none, some (vl c), none]) (by decide) rfl rfl (Nat.le_of_ble_eq_true rfl) rfl (fun Fx hnm hret => ?_)
  refine x_lload_n dX5_in_0 rfl ?_
  refine x_lload_n dX5_in_1 rfl ?_
  refine x_lcmp dX5_in_2 ha hb ?_
  refine x_if_lt 17 dX5_in_3 (by decide) (by unfold inr; split <;> (try split) <;> omega) (fun h_3 => ?_) (fun h_3 => ?_)
  · refine x_iconst dX5_in_17 ?_
    refine hret _ _ _ _ _ _ dX5_in_18 rfl ?_
    refine ⟨rfl, rfl, rfl, ?_⟩
    have q1 := lc_b a b
    have q2 := lc_b a c
    by_cases g : b ≤ a ∧ a ≤ c
    · first | (exfalso; omega) | rw [if_pos g]
    · first | (exfalso; omega) | rw [if_neg g]
  · refine x_lload_n dX5_in_6 rfl ?_
    refine x_lload dX5_in_7 rfl ?_
    refine x_lcmp dX5_in_9 ha hc ?_
    refine x_if_gt 17 dX5_in_10 (by decide) (by unfold inr; split <;> (try split) <;> omega) (fun h_10 => ?_) (fun h_10 => ?_)
    · refine x_iconst dX5_in_17 ?_
      refine hret _ _ _ _ _ _ dX5_in_18 rfl ?_
      refine ⟨rfl, rfl, rfl, ?_⟩
      have q1 := lc_b a b
      have q2 := lc_b a c
      by_cases g : b ≤ a ∧ a ≤ c
      · first | (exfalso; omega) | rw [if_pos g]
      · first | (exfalso; omega) | rw [if_neg g]
    · refine x_iconst dX5_in_13 ?_
      refine x_goto 18 dX5_in_14 (by decide) ?_
      refine hret _ _ _ _ _ _ dX5_in_18 rfl ?_
      refine ⟨rfl, rfl, rfl, ?_⟩
      have q1 := lc_b a b
      have q2 := lc_b a c
      by_cases g : b ≤ a ∧ a ≤ c
      · first | (exfalso; omega) | rw [if_pos g]
      · first | (exfalso; omega) | rw [if_neg g]
theorem sp_at {k f : Int} : SpI G mX5_at .int 0 0 0 0 [vi k, vi f] K N I (qI K N I (9 * k + f)) := by
  refine SpI.of (own := RX5) (cc := cX5_at) (L := [some (vi k), some (vi f)]) (by decide) rfl rfl (Nat.le_of_ble_eq_true rfl) rfl (fun Fx hnm hret => ?_)
  refine x_bipush dX5_at_0 (by decide) ?_
  refine x_iload_n dX5_at_2 rfl ?_
  refine x_imul dX5_at_3 ?_
  refine x_iload_n dX5_at_4 rfl ?_
  refine x_iadd dX5_at_5 ?_
  refine hret _ _ _ _ _ _ dX5_at_6 rfl ?_
  exact ⟨rfl, rfl, rfl, rfl⟩
theorem sp_isFarm (hn : I 50 0 = (n : Int)) (hn9 : n ≤ 9) {f : Int} (hf : inr f) : SpI G mX5_isFarm .boolean 1 25 0 0 [.ref 50, vi f] K N I (qI K N I (if 0 ≤ f ∧ f < n then 1 else 0)) := by
  refine SpI.of (own := RX5) (cc := cX5_isFarm) (L := [some (.ref 50), some (vi f)]) (by decide) rfl rfl (Nat.le_of_ble_eq_true rfl) rfl (fun Fx hnm hret => ?_)
  refine x_iload_n dX5_isFarm_0 rfl ?_
  refine x_i2l dX5_isFarm_1 hf ?_
  refine x_lconst0 dX5_isFarm_2 ?_
  refine x_aload_n dX5_isFarm_3 rfl ?_
  refine x_getI dX5_isFarm_4 gf_RX5_73 rfl rfl ?_
  rw [hn]
  refine x_iconst dX5_isFarm_7 ?_
  refine x_isub dX5_isFarm_8 ?_
  refine x_i2l dX5_isFarm_9 (by unfold inr; omega) ?_
  refine xf_SI3 dX5_isFarm_10 ml_RX5_86 vw_X5_in st_X5_in (sp_in (by unfold inl; unfold inr at hf; omega) (by unfold inl; omega) (by unfold inl; omega)) ⟨Nat.le_of_ble_eq_true rfl, Nat.le_of_ble_eq_true rfl, Nat.le_of_ble_eq_true rfl, Nat.le_of_ble_eq_true rfl, Nat.le_of_ble_eq_true rfl⟩ ?_
  refine hret _ _ _ _ _ _ dX5_isFarm_13 nbz ?_
  exact ⟨rfl, rfl, rfl, ifq (by omega)⟩
theorem sp_takenAt (hN : NS N) (hB : RM I n) (f : Nat) (hfn : f < n) {zf l kn : Int} (hf : zf = (f : Int)) (hl : 0 ≤ l ∧ l ≤ 149) (hk : inr kn) : SpI G mX5_takenAt .int 1 21 0 0 [.ref 50, vi zf, vi l, vi kn] K N I (qI K N I (tkA (fm I) kn l f)) := by
  refine SpI.of (own := RX5) (cc := cX5_takenAt) (L := [some (.ref 50), some (vi zf), some (vi l), some (vi kn), none, none]) (by decide) rfl rfl (Nat.le_of_ble_eq_true rfl) rfl (fun Fx hnm hret => ?_)
  have hn9 := hB.2.2.1
  have hbf := hB.2.2.2.1 f hfn
  refine x_iload_n dX5_takenAt_0 rfl ?_
  refine x_aload_n dX5_takenAt_1 rfl ?_
  refine x_getR (j := 51) dX5_takenAt_2 gf_RX5_7 rfl rfl (hN _ _ (by decide)) ?_
  refine x_iconst dX5_takenAt_5 ?_
  refine x_iload_n dX5_takenAt_6 rfl ?_
  refine xf_SI2 dX5_takenAt_7 ml_RX5_82 vw_X5_at st_X5_at (sp_at) ⟨Nat.le_of_ble_eq_true rfl, Nat.le_of_ble_eq_true rfl, Nat.le_of_ble_eq_true rfl, Nat.le_of_ble_eq_true rfl, Nat.le_of_ble_eq_true rfl⟩ ?_
  refine x_iald (9 * 0 + f) dX5_takenAt_10 rfl (by omega) (show _ < 63 by omega) ?_
  rw [show I 51 (9 * 0 + f) = fm I f 0 from (fm_at (by omega)).symm]
  refine x_isub dX5_takenAt_11 ?_
  refine x_ist4 dX5_takenAt_12 ?_
  refine x_aload_n dX5_takenAt_14 rfl ?_
  refine x_getR (j := 51) dX5_takenAt_15 gf_RX5_7 rfl rfl (hN _ _ (by decide)) ?_
  refine x_iconst dX5_takenAt_18 ?_
  refine x_iload_n dX5_takenAt_19 rfl ?_
  refine xf_SI2 dX5_takenAt_20 ml_RX5_82 vw_X5_at st_X5_at (sp_at) ⟨Nat.le_of_ble_eq_true rfl, Nat.le_of_ble_eq_true rfl, Nat.le_of_ble_eq_true rfl, Nat.le_of_ble_eq_true rfl, Nat.le_of_ble_eq_true rfl⟩ ?_
  refine x_iald (9 * 4 + f) dX5_takenAt_23 rfl (by omega) (show _ < 63 by omega) ?_
  rw [show I 51 (9 * 4 + f) = fm I f 4 from (fm_at (by omega)).symm]
  refine x_iconst dX5_takenAt_24 ?_
  refine x_icmp_eq 47 dX5_takenAt_25 (by decide) (by unfold inr; omega) (by unfold inr; omega) (fun h_25 => ?_) (fun h_25 => ?_)
  · refine x_iconst dX5_takenAt_47 ?_
    refine x_goto 52 dX5_takenAt_48 (by decide) ?_
    refine x_ist5 dX5_takenAt_52 ?_
    refine x_iload dX5_takenAt_54 rfl ?_
    refine x_if_ne 64 dX5_takenAt_56 (by decide) (by unfold inr; omega) (fun h_56 => ?_) (fun h_56 => ?_)
    · refine x_iconst dX5_takenAt_64 ?_
      refine x_goto 98 dX5_takenAt_65 (by decide) ?_
      refine hret _ _ _ _ _ _ dX5_takenAt_98 rfl ?_
      refine ⟨rfl, rfl, rfl, ?_⟩
      unfold tkA
      first
      | (exfalso; omega)
      | (rw [if_pos (by omega)])
      | (rw [if_neg (by omega)]; omega)
    · refine x_iload dX5_takenAt_59 rfl ?_
      refine x_if_gt 68 dX5_takenAt_61 (by decide) (by unfold inr; omega) (fun h_61 => ?_) (fun h_61 => ?_)
      · refine x_iload dX5_takenAt_68 rfl ?_
        refine x_aload_n dX5_takenAt_70 rfl ?_
        refine x_getR (j := 51) dX5_takenAt_71 gf_RX5_7 rfl rfl (hN _ _ (by decide)) ?_
        refine x_iconst dX5_takenAt_74 ?_
        refine x_iload_n dX5_takenAt_75 rfl ?_
        refine xf_SI2 dX5_takenAt_76 ml_RX5_82 vw_X5_at st_X5_at (sp_at) ⟨Nat.le_of_ble_eq_true rfl, Nat.le_of_ble_eq_true rfl, Nat.le_of_ble_eq_true rfl, Nat.le_of_ble_eq_true rfl, Nat.le_of_ble_eq_true rfl⟩ ?_
        refine x_iald (9 * 1 + f) dX5_takenAt_79 rfl (by omega) (show _ < 63 by omega) ?_
        rw [show I 51 (9 * 1 + f) = fm I f 1 from (fm_at (by omega)).symm]
        refine x_icmp_ge 88 dX5_takenAt_80 (by decide) (by unfold inr; omega) (by unfold inr; omega) (fun h_80 => ?_) (fun h_80 => ?_)
        · refine x_aload_n dX5_takenAt_88 rfl ?_
          refine x_getR (j := 51) dX5_takenAt_89 gf_RX5_7 rfl rfl (hN _ _ (by decide)) ?_
          refine x_iconst dX5_takenAt_92 ?_
          refine x_iload_n dX5_takenAt_93 rfl ?_
          refine xf_SI2 dX5_takenAt_94 ml_RX5_82 vw_X5_at st_X5_at (sp_at) ⟨Nat.le_of_ble_eq_true rfl, Nat.le_of_ble_eq_true rfl, Nat.le_of_ble_eq_true rfl, Nat.le_of_ble_eq_true rfl, Nat.le_of_ble_eq_true rfl⟩ ?_
          refine x_iald (9 * 1 + f) dX5_takenAt_97 rfl (by omega) (show _ < 63 by omega) ?_
          rw [show I 51 (9 * 1 + f) = fm I f 1 from (fm_at (by omega)).symm]
          refine hret _ _ _ _ _ _ dX5_takenAt_98 rfl ?_
          refine ⟨rfl, rfl, rfl, ?_⟩
          unfold tkA
          first
          | (exfalso; omega)
          | (rw [if_pos (by omega)])
          | (rw [if_neg (by omega)]; omega)
        · refine x_iload dX5_takenAt_83 rfl ?_
          refine x_goto 98 dX5_takenAt_85 (by decide) ?_
          refine hret _ _ _ _ _ _ dX5_takenAt_98 rfl ?_
          refine ⟨rfl, rfl, rfl, ?_⟩
          unfold tkA
          first
          | (exfalso; omega)
          | (rw [if_pos (by omega)])
          | (rw [if_neg (by omega)]; omega)
      · refine x_iconst dX5_takenAt_64 ?_
        refine x_goto 98 dX5_takenAt_65 (by decide) ?_
        refine hret _ _ _ _ _ _ dX5_takenAt_98 rfl ?_
        refine ⟨rfl, rfl, rfl, ?_⟩
        unfold tkA
        first
        | (exfalso; omega)
        | (rw [if_pos (by omega)])
        | (rw [if_neg (by omega)]; omega)
  · refine x_iload_n dX5_takenAt_28 rfl ?_
    refine x_iconst dX5_takenAt_29 ?_
    refine x_icmp_ne 51 dX5_takenAt_30 (by decide) hk (by unfold inr; omega) (fun h_30 => ?_) (fun h_30 => ?_)
    · refine x_iconst dX5_takenAt_51 ?_
      refine x_ist5 dX5_takenAt_52 ?_
      refine x_iload dX5_takenAt_54 rfl ?_
      refine x_if_ne 64 dX5_takenAt_56 (by decide) (by unfold inr; omega) (fun h_56 => ?_) (fun h_56 => ?_)
      · refine x_iconst dX5_takenAt_64 ?_
        refine x_goto 98 dX5_takenAt_65 (by decide) ?_
        refine hret _ _ _ _ _ _ dX5_takenAt_98 rfl ?_
        refine ⟨rfl, rfl, rfl, ?_⟩
        unfold tkA
        first
        | (exfalso; omega)
        | (rw [if_pos (by omega)])
        | (rw [if_neg (by omega)]; omega)
      · refine x_iload dX5_takenAt_59 rfl ?_
        refine x_if_gt 68 dX5_takenAt_61 (by decide) (by unfold inr; omega) (fun h_61 => ?_) (fun h_61 => ?_)
        · refine x_iload dX5_takenAt_68 rfl ?_
          refine x_aload_n dX5_takenAt_70 rfl ?_
          refine x_getR (j := 51) dX5_takenAt_71 gf_RX5_7 rfl rfl (hN _ _ (by decide)) ?_
          refine x_iconst dX5_takenAt_74 ?_
          refine x_iload_n dX5_takenAt_75 rfl ?_
          refine xf_SI2 dX5_takenAt_76 ml_RX5_82 vw_X5_at st_X5_at (sp_at) ⟨Nat.le_of_ble_eq_true rfl, Nat.le_of_ble_eq_true rfl, Nat.le_of_ble_eq_true rfl, Nat.le_of_ble_eq_true rfl, Nat.le_of_ble_eq_true rfl⟩ ?_
          refine x_iald (9 * 1 + f) dX5_takenAt_79 rfl (by omega) (show _ < 63 by omega) ?_
          rw [show I 51 (9 * 1 + f) = fm I f 1 from (fm_at (by omega)).symm]
          refine x_icmp_ge 88 dX5_takenAt_80 (by decide) (by unfold inr; omega) (by unfold inr; omega) (fun h_80 => ?_) (fun h_80 => ?_)
          · refine x_aload_n dX5_takenAt_88 rfl ?_
            refine x_getR (j := 51) dX5_takenAt_89 gf_RX5_7 rfl rfl (hN _ _ (by decide)) ?_
            refine x_iconst dX5_takenAt_92 ?_
            refine x_iload_n dX5_takenAt_93 rfl ?_
            refine xf_SI2 dX5_takenAt_94 ml_RX5_82 vw_X5_at st_X5_at (sp_at) ⟨Nat.le_of_ble_eq_true rfl, Nat.le_of_ble_eq_true rfl, Nat.le_of_ble_eq_true rfl, Nat.le_of_ble_eq_true rfl, Nat.le_of_ble_eq_true rfl⟩ ?_
            refine x_iald (9 * 1 + f) dX5_takenAt_97 rfl (by omega) (show _ < 63 by omega) ?_
            rw [show I 51 (9 * 1 + f) = fm I f 1 from (fm_at (by omega)).symm]
            refine hret _ _ _ _ _ _ dX5_takenAt_98 rfl ?_
            refine ⟨rfl, rfl, rfl, ?_⟩
            unfold tkA
            first
            | (exfalso; omega)
            | (rw [if_pos (by omega)])
            | (rw [if_neg (by omega)]; omega)
          · refine x_iload dX5_takenAt_83 rfl ?_
            refine x_goto 98 dX5_takenAt_85 (by decide) ?_
            refine hret _ _ _ _ _ _ dX5_takenAt_98 rfl ?_
            refine ⟨rfl, rfl, rfl, ?_⟩
            unfold tkA
            first
            | (exfalso; omega)
            | (rw [if_pos (by omega)])
            | (rw [if_neg (by omega)]; omega)
        · refine x_iconst dX5_takenAt_64 ?_
          refine x_goto 98 dX5_takenAt_65 (by decide) ?_
          refine hret _ _ _ _ _ _ dX5_takenAt_98 rfl ?_
          refine ⟨rfl, rfl, rfl, ?_⟩
          unfold tkA
          first
          | (exfalso; omega)
          | (rw [if_pos (by omega)])
          | (rw [if_neg (by omega)]; omega)
    · refine x_aload_n dX5_takenAt_33 rfl ?_
      refine x_getR (j := 51) dX5_takenAt_34 gf_RX5_7 rfl rfl (hN _ _ (by decide)) ?_
      refine x_iconst dX5_takenAt_37 ?_
      refine x_iload_n dX5_takenAt_38 rfl ?_
      refine xf_SI2 dX5_takenAt_39 ml_RX5_82 vw_X5_at st_X5_at (sp_at) ⟨Nat.le_of_ble_eq_true rfl, Nat.le_of_ble_eq_true rfl, Nat.le_of_ble_eq_true rfl, Nat.le_of_ble_eq_true rfl, Nat.le_of_ble_eq_true rfl⟩ ?_
      refine x_iald (9 * 3 + f) dX5_takenAt_42 rfl (by omega) (show _ < 63 by omega) ?_
      rw [show I 51 (9 * 3 + f) = fm I f 3 from (fm_at (by omega)).symm]
      refine x_iconst dX5_takenAt_43 ?_
      refine x_icmp_ne 51 dX5_takenAt_44 (by decide) (by unfold inr; omega) (by unfold inr; omega) (fun h_44 => ?_) (fun h_44 => ?_)
      · refine x_iconst dX5_takenAt_51 ?_
        refine x_ist5 dX5_takenAt_52 ?_
        refine x_iload dX5_takenAt_54 rfl ?_
        refine x_if_ne 64 dX5_takenAt_56 (by decide) (by unfold inr; omega) (fun h_56 => ?_) (fun h_56 => ?_)
        · refine x_iconst dX5_takenAt_64 ?_
          refine x_goto 98 dX5_takenAt_65 (by decide) ?_
          refine hret _ _ _ _ _ _ dX5_takenAt_98 rfl ?_
          refine ⟨rfl, rfl, rfl, ?_⟩
          unfold tkA
          first
          | (exfalso; omega)
          | (rw [if_pos (by omega)])
          | (rw [if_neg (by omega)]; omega)
        · refine x_iload dX5_takenAt_59 rfl ?_
          refine x_if_gt 68 dX5_takenAt_61 (by decide) (by unfold inr; omega) (fun h_61 => ?_) (fun h_61 => ?_)
          · refine x_iload dX5_takenAt_68 rfl ?_
            refine x_aload_n dX5_takenAt_70 rfl ?_
            refine x_getR (j := 51) dX5_takenAt_71 gf_RX5_7 rfl rfl (hN _ _ (by decide)) ?_
            refine x_iconst dX5_takenAt_74 ?_
            refine x_iload_n dX5_takenAt_75 rfl ?_
            refine xf_SI2 dX5_takenAt_76 ml_RX5_82 vw_X5_at st_X5_at (sp_at) ⟨Nat.le_of_ble_eq_true rfl, Nat.le_of_ble_eq_true rfl, Nat.le_of_ble_eq_true rfl, Nat.le_of_ble_eq_true rfl, Nat.le_of_ble_eq_true rfl⟩ ?_
            refine x_iald (9 * 1 + f) dX5_takenAt_79 rfl (by omega) (show _ < 63 by omega) ?_
            rw [show I 51 (9 * 1 + f) = fm I f 1 from (fm_at (by omega)).symm]
            refine x_icmp_ge 88 dX5_takenAt_80 (by decide) (by unfold inr; omega) (by unfold inr; omega) (fun h_80 => ?_) (fun h_80 => ?_)
            · refine x_aload_n dX5_takenAt_88 rfl ?_
              refine x_getR (j := 51) dX5_takenAt_89 gf_RX5_7 rfl rfl (hN _ _ (by decide)) ?_
              refine x_iconst dX5_takenAt_92 ?_
              refine x_iload_n dX5_takenAt_93 rfl ?_
              refine xf_SI2 dX5_takenAt_94 ml_RX5_82 vw_X5_at st_X5_at (sp_at) ⟨Nat.le_of_ble_eq_true rfl, Nat.le_of_ble_eq_true rfl, Nat.le_of_ble_eq_true rfl, Nat.le_of_ble_eq_true rfl, Nat.le_of_ble_eq_true rfl⟩ ?_
              refine x_iald (9 * 1 + f) dX5_takenAt_97 rfl (by omega) (show _ < 63 by omega) ?_
              rw [show I 51 (9 * 1 + f) = fm I f 1 from (fm_at (by omega)).symm]
              refine hret _ _ _ _ _ _ dX5_takenAt_98 rfl ?_
              refine ⟨rfl, rfl, rfl, ?_⟩
              unfold tkA
              first
              | (exfalso; omega)
              | (rw [if_pos (by omega)])
              | (rw [if_neg (by omega)]; omega)
            · refine x_iload dX5_takenAt_83 rfl ?_
              refine x_goto 98 dX5_takenAt_85 (by decide) ?_
              refine hret _ _ _ _ _ _ dX5_takenAt_98 rfl ?_
              refine ⟨rfl, rfl, rfl, ?_⟩
              unfold tkA
              first
              | (exfalso; omega)
              | (rw [if_pos (by omega)])
              | (rw [if_neg (by omega)]; omega)
          · refine x_iconst dX5_takenAt_64 ?_
            refine x_goto 98 dX5_takenAt_65 (by decide) ?_
            refine hret _ _ _ _ _ _ dX5_takenAt_98 rfl ?_
            refine ⟨rfl, rfl, rfl, ?_⟩
            unfold tkA
            first
            | (exfalso; omega)
            | (rw [if_pos (by omega)])
            | (rw [if_neg (by omega)]; omega)
      · refine x_iconst dX5_takenAt_47 ?_
        refine x_goto 52 dX5_takenAt_48 (by decide) ?_
        refine x_ist5 dX5_takenAt_52 ?_
        refine x_iload dX5_takenAt_54 rfl ?_
        refine x_if_ne 64 dX5_takenAt_56 (by decide) (by unfold inr; omega) (fun h_56 => ?_) (fun h_56 => ?_)
        · refine x_iconst dX5_takenAt_64 ?_
          refine x_goto 98 dX5_takenAt_65 (by decide) ?_
          refine hret _ _ _ _ _ _ dX5_takenAt_98 rfl ?_
          refine ⟨rfl, rfl, rfl, ?_⟩
          unfold tkA
          first
          | (exfalso; omega)
          | (rw [if_pos (by omega)])
          | (rw [if_neg (by omega)]; omega)
        · refine x_iload dX5_takenAt_59 rfl ?_
          refine x_if_gt 68 dX5_takenAt_61 (by decide) (by unfold inr; omega) (fun h_61 => ?_) (fun h_61 => ?_)
          · refine x_iload dX5_takenAt_68 rfl ?_
            refine x_aload_n dX5_takenAt_70 rfl ?_
            refine x_getR (j := 51) dX5_takenAt_71 gf_RX5_7 rfl rfl (hN _ _ (by decide)) ?_
            refine x_iconst dX5_takenAt_74 ?_
            refine x_iload_n dX5_takenAt_75 rfl ?_
            refine xf_SI2 dX5_takenAt_76 ml_RX5_82 vw_X5_at st_X5_at (sp_at) ⟨Nat.le_of_ble_eq_true rfl, Nat.le_of_ble_eq_true rfl, Nat.le_of_ble_eq_true rfl, Nat.le_of_ble_eq_true rfl, Nat.le_of_ble_eq_true rfl⟩ ?_
            refine x_iald (9 * 1 + f) dX5_takenAt_79 rfl (by omega) (show _ < 63 by omega) ?_
            rw [show I 51 (9 * 1 + f) = fm I f 1 from (fm_at (by omega)).symm]
            refine x_icmp_ge 88 dX5_takenAt_80 (by decide) (by unfold inr; omega) (by unfold inr; omega) (fun h_80 => ?_) (fun h_80 => ?_)
            · refine x_aload_n dX5_takenAt_88 rfl ?_
              refine x_getR (j := 51) dX5_takenAt_89 gf_RX5_7 rfl rfl (hN _ _ (by decide)) ?_
              refine x_iconst dX5_takenAt_92 ?_
              refine x_iload_n dX5_takenAt_93 rfl ?_
              refine xf_SI2 dX5_takenAt_94 ml_RX5_82 vw_X5_at st_X5_at (sp_at) ⟨Nat.le_of_ble_eq_true rfl, Nat.le_of_ble_eq_true rfl, Nat.le_of_ble_eq_true rfl, Nat.le_of_ble_eq_true rfl, Nat.le_of_ble_eq_true rfl⟩ ?_
              refine x_iald (9 * 1 + f) dX5_takenAt_97 rfl (by omega) (show _ < 63 by omega) ?_
              rw [show I 51 (9 * 1 + f) = fm I f 1 from (fm_at (by omega)).symm]
              refine hret _ _ _ _ _ _ dX5_takenAt_98 rfl ?_
              refine ⟨rfl, rfl, rfl, ?_⟩
              unfold tkA
              first
              | (exfalso; omega)
              | (rw [if_pos (by omega)])
              | (rw [if_neg (by omega)]; omega)
            · refine x_iload dX5_takenAt_83 rfl ?_
              refine x_goto 98 dX5_takenAt_85 (by decide) ?_
              refine hret _ _ _ _ _ _ dX5_takenAt_98 rfl ?_
              refine ⟨rfl, rfl, rfl, ?_⟩
              unfold tkA
              first
              | (exfalso; omega)
              | (rw [if_pos (by omega)])
              | (rw [if_neg (by omega)]; omega)
          · refine x_iconst dX5_takenAt_64 ?_
            refine x_goto 98 dX5_takenAt_65 (by decide) ?_
            refine hret _ _ _ _ _ _ dX5_takenAt_98 rfl ?_
            refine ⟨rfl, rfl, rfl, ?_⟩
            unfold tkA
            first
            | (exfalso; omega)
            | (rw [if_pos (by omega)])
            | (rw [if_neg (by omega)]; omega)
theorem sp_mbegin (hN : NS N) {z : Int} : SpV G mX5_begin 1 21 0 0 [.ref 50, vi z] K N I (qV K N (bmS I z 63)) := by
  refine SpV.of (own := RX5) (cc := cX5_begin) (L := [some (.ref 50), some (vi z), none, none]) (by decide) rfl rfl (Nat.le_of_ble_eq_true rfl) rfl (fun Fx hnm hret => ?_)
  have lp : ∀ (m j : Nat) (x : Int) (J : MM), j ≤ 7 → 7 < j + m → x = (j : Int) → J = bmS I z (9 * j) → XX G RX5 cX5_begin (RmW 1 21 0 0) Fx 17 [some (.ref 50), some (vi z), some (vi x), none] [] K N J 0 0 := by
    intro m
    induction m with
    | zero => intros; exfalso; omega
    | succ m ih =>
      intro j x J h0 h1 h2 h3
      refine x_iload_n dX5_begin_17 rfl ?_
      refine x_bipush dX5_begin_18 (by decide) ?_
      refine x_icmp_ge 72 dX5_begin_20 (by decide) (by unfold inr; omega) (by unfold inr; omega) (fun h_20 => ?_) (fun h_20 => ?_)
      · refine hret _ _ _ _ _ dX5_begin_72 ?_
        obtain rfl : j = 7 := by omega
        exact ⟨rfl, rfl, h3⟩
      · refine x_iconst dX5_begin_23 ?_
        refine x_ist3 dX5_begin_24 ?_
        have lp2 : ∀ (m2 : Nat) (f : Nat) (y : Int) (J : MM), f ≤ 9 → 9 < f + m2 → y = (f : Int) → J = bmS I z (9 * j + f) → XX G RX5 cX5_begin (RmW 1 21 0 0) Fx 25 [some (.ref 50), some (vi z), some (vi x), some (vi y)] [] K N J 0 0 := by
          intro m2
          induction m2 with
          | zero => intros; exfalso; omega
          | succ m2 ih2 =>
            intro f y J g0 g1 g2 g3
            refine x_iload_n dX5_begin_25 rfl ?_
            refine x_bipush dX5_begin_26 (by decide) ?_
            refine x_icmp_ge 66 dX5_begin_28 (by decide) (by unfold inr; omega) (by unfold inr; omega) (fun h_28 => ?_) (fun h_28 => ?_)
            · refine x_inc2 dX5_begin_66 ?_
              refine x_goto 17 dX5_begin_69 (by decide) ?_
              obtain rfl : f = 9 := by omega
              refine x_dr3 (ih (j + 1) _ _ (by omega) (by omega) (by omega) ?_)
              rw [g3, show 9 * (j + 1) = 9 * j + 9 by omega]
            · refine x_aload_n dX5_begin_31 rfl ?_
              refine x_getR (j := 51) dX5_begin_32 gf_RX5_7 rfl rfl (hN _ _ (by decide)) ?_
              refine x_iload_n dX5_begin_35 rfl ?_
              refine x_iload_n dX5_begin_36 rfl ?_
              refine xf_SI2 dX5_begin_37 ml_RX5_82 vw_X5_at st_X5_at (sp_at) ⟨Nat.le_of_ble_eq_true rfl, Nat.le_of_ble_eq_true rfl, Nat.le_of_ble_eq_true rfl, Nat.le_of_ble_eq_true rfl, Nat.le_of_ble_eq_true rfl⟩ ?_
              refine x_iload_n dX5_begin_40 rfl ?_
              refine x_iconst dX5_begin_41 ?_
              refine x_icmp_ne 49 dX5_begin_42 (by decide) (by unfold inr; omega) (by unfold inr; omega) (fun h_42 => ?_) (fun h_42 => ?_)
              · refine x_iload_n dX5_begin_49 rfl ?_
                refine x_iconst dX5_begin_50 ?_
                refine x_icmp_ne 58 dX5_begin_51 (by decide) (by unfold inr; omega) (by unfold inr; omega) (fun h_51 => ?_) (fun h_51 => ?_)
                · refine x_iconst dX5_begin_58 ?_
                  refine x_iast (9 * j + f) dX5_begin_59 rfl (by omega) (show _ < 63 by omega) ?_
                  refine x_inc3 dX5_begin_60 ?_
                  refine x_goto 25 dX5_begin_63 (by decide) ?_
                  refine ih2 (f + 1) _ _ (by omega) (by omega) (by omega) ?_
                  rw [g3, ← bmS_st (by omega)]
                  congr 1
                  unfold fst7
                  first
                  | (rw [if_pos (by omega)])
                  | (rw [if_neg (by omega), if_pos (by omega)])
                  | (rw [if_neg (by omega), if_neg (by omega)])
                · refine x_iconst dX5_begin_54 ?_
                  refine x_goto 59 dX5_begin_55 (by decide) ?_
                  refine x_iast (9 * j + f) dX5_begin_59 rfl (by omega) (show _ < 63 by omega) ?_
                  refine x_inc3 dX5_begin_60 ?_
                  refine x_goto 25 dX5_begin_63 (by decide) ?_
                  refine ih2 (f + 1) _ _ (by omega) (by omega) (by omega) ?_
                  rw [g3, ← bmS_st (by omega)]
                  congr 1
                  unfold fst7
                  first
                  | (rw [if_pos (by omega)])
                  | (rw [if_neg (by omega), if_pos (by omega)])
                  | (rw [if_neg (by omega), if_neg (by omega)])
              · refine x_iconst dX5_begin_45 ?_
                refine x_goto 59 dX5_begin_46 (by decide) ?_
                refine x_iast (9 * j + f) dX5_begin_59 rfl (by omega) (show _ < 63 by omega) ?_
                refine x_inc3 dX5_begin_60 ?_
                refine x_goto 25 dX5_begin_63 (by decide) ?_
                refine ih2 (f + 1) _ _ (by omega) (by omega) (by omega) ?_
                rw [g3, ← bmS_st (by omega)]
                congr 1
                unfold fst7
                first
                | (rw [if_pos (by omega)])
                | (rw [if_neg (by omega), if_pos (by omega)])
                | (rw [if_neg (by omega), if_neg (by omega)])
        exact lp2 10 0 _ _ (by omega) (by omega) rfl h3
  refine x_aload_n dX5_begin_0 rfl ?_
  refine x_iload_n dX5_begin_1 rfl ?_
  refine x_putI dX5_begin_2 pf_RX5_73 rfl rfl ?_
  refine x_aload_n dX5_begin_5 rfl ?_
  refine x_iconst dX5_begin_6 ?_
  refine x_putI dX5_begin_7 pf_RX5_76 rfl rfl ?_
  refine x_aload_n dX5_begin_10 rfl ?_
  refine x_iconst dX5_begin_11 ?_
  refine x_putI dX5_begin_12 pf_RX5_79 rfl rfl ?_
  refine x_iconst dX5_begin_15 ?_
  refine x_ist2 dX5_begin_16 ?_
  refine lp 8 0 _ _ (by omega) (by omega) rfl ?_
  funext a k
  unfold up bmS
  by_cases h1 : a = 50
  · subst h1
    rcases (by omega : k = 0 ∨ k = 5 ∨ k = 8 ∨ (k ≠ 0 ∧ k ≠ 5 ∧ k ≠ 8)) with rfl | rfl | rfl | ⟨q1, q2, q3⟩
    · rw [if_neg (by omega), if_neg (by omega), if_pos ⟨rfl, rfl⟩, if_pos ⟨rfl, rfl⟩]
    · rw [if_neg (by omega), if_pos ⟨rfl, rfl⟩, if_neg (by omega), if_pos ⟨rfl, Or.inl rfl⟩]
    · rw [if_pos ⟨rfl, rfl⟩, if_neg (by omega), if_pos ⟨rfl, Or.inr rfl⟩]
    · rw [if_neg (by omega), if_neg (by omega), if_neg (by omega), if_neg (by omega), if_neg (by omega), if_neg (by omega)]
  · rw [if_neg (fun z => h1 z.1), if_neg (fun z => h1 z.1), if_neg (fun z => h1 z.1), if_neg (fun z => h1 z.1), if_neg (fun z => h1 z.1), if_neg (by omega)]
theorem sp_mfarms (hN : NS N) {z : Int} (hz : inr z) : SpI G mX5_farms .int 2 44 0 0 [.ref 50, vi z] K N I (qI K N (if 1 ≤ z ∧ z ≤ 9 then bmS I z 63 else I) (if 1 ≤ z ∧ z ≤ 9 then I 50 0 else -2)) := by
  refine SpI.of (own := RX5) (cc := cX5_farms) (L := [some (.ref 50), some (vi z), none]) (by decide) rfl rfl (Nat.le_of_ble_eq_true rfl) rfl (fun Fx hnm hret => ?_)
  refine x_iload_n dX5_farms_0 rfl ?_
  refine x_i2l dX5_farms_1 hz ?_
  refine x_lconst1 dX5_farms_2 ?_
  refine x_ldc2 dX5_farms_3 ct_RX5_90 ?_
  refine xf_SI3 dX5_farms_6 ml_RX5_86 vw_X5_in st_X5_in (sp_in (by unfold inl; unfold inr at hz; omega) (by unfold inl; omega) (by unfold inl; omega)) ⟨Nat.le_of_ble_eq_true rfl, Nat.le_of_ble_eq_true rfl, Nat.le_of_ble_eq_true rfl, Nat.le_of_ble_eq_true rfl, Nat.le_of_ble_eq_true rfl⟩ ?_
  refine x_if_ne 15 dX5_farms_9 (by decide) (by unfold inr; split <;> omega) (fun h_9 => ?_) (fun h_9 => ?_)
  · replace h_9 := b1 h_9
    refine x_aload_n dX5_farms_15 rfl ?_
    refine x_getI dX5_farms_16 gf_RX5_73 rfl rfl ?_
    refine x_ist2 dX5_farms_19 ?_
    refine x_aload_n dX5_farms_20 rfl ?_
    refine x_iload_n dX5_farms_21 rfl ?_
    refine xf_VV1 dX5_farms_22 ml_RX5_69 vw_X5_begin vv_X5_begin rfl (sp_mbegin hN) ⟨Nat.le_of_ble_eq_true rfl, Nat.le_of_ble_eq_true rfl, Nat.le_of_ble_eq_true rfl, Nat.le_of_ble_eq_true rfl, Nat.le_of_ble_eq_true rfl⟩ ?_
    refine x_iload_n dX5_farms_25 rfl ?_
    refine hret _ _ _ _ _ _ dX5_farms_26 rfl ?_
    refine ⟨rfl, rfl, ?_, ?_⟩ <;> (repeat (first | rw [if_pos (by omega)] | rw [if_neg (by omega)])) <;> first | rfl | omega
  · replace h_9 := b0 h_9
    refine x_bipush dX5_farms_12 (by decide) ?_
    refine hret _ _ _ _ _ _ dX5_farms_14 rfl ?_
    refine ⟨rfl, rfl, ?_, ?_⟩ <;> (repeat (first | rw [if_pos (by omega)] | rw [if_neg (by omega)])) <;> first | rfl | omega
theorem sp_greatest {k : Int} (hk : inr k) (h : 0 ≤ k ∧ k ≤ 6) : SpI G mX5_greatest .int 0 0 0 0 [vi k] K N I (qI K N I (gmst k)) := by
  refine SpI.of (own := RX5) (cc := cX5_greatest) (L := [some (vi k)]) (by decide) rfl rfl (Nat.le_of_ble_eq_true rfl) rfl (fun Fx hnm hret => ?_)
  refine x_iload_n dX5_greatest_0 rfl ?_
  rcases (show (k < 0 ∨ 6 < k) ∨ k = 0 ∨ k = 1 ∨ k = 2 ∨ k = 3 ∨ k = 4 ∨ k = 5 ∨ k = 6 by omega) with h_1 | h_1 | h_1 | h_1 | h_1 | h_1 | h_1 | h_1
  · refine x_tabOut 56 dX5_greatest_1 hk h_1 (by decide) ?_
    refine x_bipush dX5_greatest_56 (by decide) ?_
    refine hret _ _ _ _ _ _ dX5_greatest_58 rfl ?_
    refine ⟨rfl, rfl, rfl, ?_⟩
    first
    | (exfalso; omega)
    | (rw [h_1]; rfl)
  · refine x_tabIn 44 dX5_greatest_1 hk (by omega) (by rw [h_1]; rfl) (by decide) ?_
    refine x_bipush dX5_greatest_44 (by decide) ?_
    refine hret _ _ _ _ _ _ dX5_greatest_46 rfl ?_
    refine ⟨rfl, rfl, rfl, ?_⟩
    first
    | (exfalso; omega)
    | (rw [h_1]; rfl)
  · refine x_tabIn 56 dX5_greatest_1 hk (by omega) (by rw [h_1]; rfl) (by decide) ?_
    refine x_bipush dX5_greatest_56 (by decide) ?_
    refine hret _ _ _ _ _ _ dX5_greatest_58 rfl ?_
    refine ⟨rfl, rfl, rfl, ?_⟩
    first
    | (exfalso; omega)
    | (rw [h_1]; rfl)
  · refine x_tabIn 47 dX5_greatest_1 hk (by omega) (by rw [h_1]; rfl) (by decide) ?_
    refine x_bipush dX5_greatest_47 (by decide) ?_
    refine hret _ _ _ _ _ _ dX5_greatest_49 rfl ?_
    refine ⟨rfl, rfl, rfl, ?_⟩
    first
    | (exfalso; omega)
    | (rw [h_1]; rfl)
  · refine x_tabIn 50 dX5_greatest_1 hk (by omega) (by rw [h_1]; rfl) (by decide) ?_
    refine x_iconst dX5_greatest_50 ?_
    refine hret _ _ _ _ _ _ dX5_greatest_51 rfl ?_
    refine ⟨rfl, rfl, rfl, ?_⟩
    first
    | (exfalso; omega)
    | (rw [h_1]; rfl)
  · refine x_tabIn 50 dX5_greatest_1 hk (by omega) (by rw [h_1]; rfl) (by decide) ?_
    refine x_iconst dX5_greatest_50 ?_
    refine hret _ _ _ _ _ _ dX5_greatest_51 rfl ?_
    refine ⟨rfl, rfl, rfl, ?_⟩
    first
    | (exfalso; omega)
    | (rw [h_1]; rfl)
  · refine x_tabIn 56 dX5_greatest_1 hk (by omega) (by rw [h_1]; rfl) (by decide) ?_
    refine x_bipush dX5_greatest_56 (by decide) ?_
    refine hret _ _ _ _ _ _ dX5_greatest_58 rfl ?_
    refine ⟨rfl, rfl, rfl, ?_⟩
    first
    | (exfalso; omega)
    | (rw [h_1]; rfl)
  · refine x_tabIn 52 dX5_greatest_1 hk (by omega) (by rw [h_1]; rfl) (by decide) ?_
    refine x_sipush dX5_greatest_52 (by decide) ?_
    refine hret _ _ _ _ _ _ dX5_greatest_55 rfl ?_
    refine ⟨rfl, rfl, rfl, ?_⟩
    first
    | (exfalso; omega)
    | (rw [h_1]; rfl)
theorem sp_mfarm (hN : NS N) (hB : RM I n) {f k v : Int} (hf : inr f) (hk : inr k) (hv : inr v) : SpI G mX5_farm .int 2 46 0 0 [.ref 50, vi f, vi k, vi v] K N I (qI K N (if (0 ≤ f ∧ f < n) ∧ (0 ≤ k ∧ k ≤ 6) ∧ (0 ≤ v ∧ v ≤ gmst k) then up I 51 (9 * k.toNat + f.toNat) v else I) (if ¬ (0 ≤ f ∧ f < n) then -1 else if (0 ≤ k ∧ k ≤ 6) ∧ (0 ≤ v ∧ v ≤ gmst k) then fm I f.toNat k.toNat else -2)) := by
  refine SpI.of (own := RX5) (cc := cX5_farm) (L := [some (.ref 50), some (vi f), some (vi k), some (vi v), none]) (by decide) rfl rfl (Nat.le_of_ble_eq_true rfl) rfl (fun Fx hnm hret => ?_)
  have hn9 := hB.2.2.1
  have gb := gmst_b k
  refine x_aload_n dX5_farm_0 rfl ?_
  refine x_iload_n dX5_farm_1 rfl ?_
  refine xf_VI1 dX5_farm_2 ml_RX5_92 vw_X5_isFarm vv_X5_isFarm rfl (sp_isFarm hB.1 hn9 hf) ⟨Nat.le_of_ble_eq_true rfl, Nat.le_of_ble_eq_true rfl, Nat.le_of_ble_eq_true rfl, Nat.le_of_ble_eq_true rfl, Nat.le_of_ble_eq_true rfl⟩ ?_
  refine x_if_ne 10 dX5_farm_5 (by decide) (by unfold inr; split <;> omega) (fun h_5 => ?_) (fun h_5 => ?_)
  · replace h_5 := b1 h_5
    refine x_iload_n dX5_farm_10 rfl ?_
    refine x_i2l dX5_farm_11 hk ?_
    refine x_lconst0 dX5_farm_12 ?_
    refine x_ldc2 dX5_farm_13 ct_RX5_96 ?_
    refine xf_SI3 dX5_farm_16 ml_RX5_86 vw_X5_in st_X5_in (sp_in (by unfold inl; unfold inr at hk; omega) (by unfold inl; omega) (by unfold inl; omega)) ⟨Nat.le_of_ble_eq_true rfl, Nat.le_of_ble_eq_true rfl, Nat.le_of_ble_eq_true rfl, Nat.le_of_ble_eq_true rfl, Nat.le_of_ble_eq_true rfl⟩ ?_
    refine x_if_eq 36 dX5_farm_19 (by decide) (by unfold inr; split <;> omega) (fun h_19 => ?_) (fun h_19 => ?_)
    · replace h_19 := b0 h_19
      refine x_bipush dX5_farm_36 (by decide) ?_
      refine hret _ _ _ _ _ _ dX5_farm_38 rfl ?_
      refine ⟨rfl, rfl, ?_, ?_⟩ <;> (repeat (first | rw [if_pos (by omega)] | rw [if_neg (by omega)])) <;> first | rfl | omega
    · replace h_19 := b1 h_19
      refine x_iload_n dX5_farm_22 rfl ?_
      refine x_i2l dX5_farm_23 hv ?_
      refine x_lconst0 dX5_farm_24 ?_
      refine x_iload_n dX5_farm_25 rfl ?_
      refine xf_SI1 dX5_farm_26 ml_RX5_98 vw_X5_greatest st_X5_greatest (sp_greatest hk (by omega)) ⟨Nat.le_of_ble_eq_true rfl, Nat.le_of_ble_eq_true rfl, Nat.le_of_ble_eq_true rfl, Nat.le_of_ble_eq_true rfl, Nat.le_of_ble_eq_true rfl⟩ ?_
      refine x_i2l dX5_farm_29 (by unfold inr; omega) ?_
      refine xf_SI3 dX5_farm_30 ml_RX5_86 vw_X5_in st_X5_in (sp_in (by unfold inl; unfold inr at hv; omega) (by unfold inl; omega) (by unfold inl; omega)) ⟨Nat.le_of_ble_eq_true rfl, Nat.le_of_ble_eq_true rfl, Nat.le_of_ble_eq_true rfl, Nat.le_of_ble_eq_true rfl, Nat.le_of_ble_eq_true rfl⟩ ?_
      refine x_if_ne 39 dX5_farm_33 (by decide) (by unfold inr; split <;> omega) (fun h_33 => ?_) (fun h_33 => ?_)
      · replace h_33 := b1 h_33
        refine x_aload_n dX5_farm_39 rfl ?_
        refine x_getR (j := 51) dX5_farm_40 gf_RX5_7 rfl rfl (hN _ _ (by decide)) ?_
        refine x_iload_n dX5_farm_43 rfl ?_
        refine x_iload_n dX5_farm_44 rfl ?_
        refine xf_SI2 dX5_farm_45 ml_RX5_82 vw_X5_at st_X5_at (sp_at) ⟨Nat.le_of_ble_eq_true rfl, Nat.le_of_ble_eq_true rfl, Nat.le_of_ble_eq_true rfl, Nat.le_of_ble_eq_true rfl, Nat.le_of_ble_eq_true rfl⟩ ?_
        refine x_iald (9 * k.toNat + f.toNat) dX5_farm_48 rfl (by omega) (show _ < 63 by omega) ?_
        rw [show I 51 (9 * k.toNat + f.toNat) = fm I f.toNat k.toNat from (fm_at (by omega)).symm]
        refine x_ist4 dX5_farm_49 ?_
        refine x_aload_n dX5_farm_51 rfl ?_
        refine x_getR (j := 51) dX5_farm_52 gf_RX5_7 rfl rfl (hN _ _ (by decide)) ?_
        refine x_iload_n dX5_farm_55 rfl ?_
        refine x_iload_n dX5_farm_56 rfl ?_
        refine xf_SI2 dX5_farm_57 ml_RX5_82 vw_X5_at st_X5_at (sp_at) ⟨Nat.le_of_ble_eq_true rfl, Nat.le_of_ble_eq_true rfl, Nat.le_of_ble_eq_true rfl, Nat.le_of_ble_eq_true rfl, Nat.le_of_ble_eq_true rfl⟩ ?_
        refine x_iload_n dX5_farm_60 rfl ?_
        refine x_iast (9 * k.toNat + f.toNat) dX5_farm_61 rfl (by omega) (show _ < 63 by omega) ?_
        refine x_iload dX5_farm_62 rfl ?_
        refine hret _ _ _ _ _ _ dX5_farm_64 rfl ?_
        refine ⟨rfl, rfl, ?_, ?_⟩ <;> (repeat (first | rw [if_pos (by omega)] | rw [if_neg (by omega)])) <;> first | rfl | omega
      · replace h_33 := b0 h_33
        refine x_bipush dX5_farm_36 (by decide) ?_
        refine hret _ _ _ _ _ _ dX5_farm_38 rfl ?_
        refine ⟨rfl, rfl, ?_, ?_⟩ <;> (repeat (first | rw [if_pos (by omega)] | rw [if_neg (by omega)])) <;> first | rfl | omega
  · replace h_5 := b0 h_5
    refine x_iconst dX5_farm_8 ?_
    refine hret _ _ _ _ _ _ dX5_farm_9 rfl ?_
    refine ⟨rfl, rfl, ?_, ?_⟩ <;> (repeat (first | rw [if_pos (by omega)] | rw [if_neg (by omega)])) <;> first | rfl | omega
theorem sp_mset (hN : NS N) {k v : Int} (hk : inr k) (hv : inr v) : SpI G mX5_set .int 1 25 0 0 [.ref 50, vi k, vi v] K N I (pI K N (fun z J => z = (if (0 ≤ k ∧ k ≤ 2) ∧ (0 ≤ v ∧ v ≤ rmst k) then I 50 (2 + k.toNat) else -2) ∧ (∀ a b, J a b = if (0 ≤ k ∧ k ≤ 2) ∧ (0 ≤ v ∧ v ≤ rmst k) ∧ a = 50 ∧ b = 2 + k.toNat then v else I a b))) := by
  refine SpI.of (own := RX5) (cc := cX5_set) (L := [some (.ref 50), some (vi k), some (vi v), none]) (by decide) rfl rfl (Nat.le_of_ble_eq_true rfl) rfl (fun Fx hnm hret => ?_)
  have gb := rmst_b k
  refine x_iload_n dX5_set_0 rfl ?_
  refine x_i2l dX5_set_1 hk ?_
  refine x_lconst0 dX5_set_2 ?_
  refine x_ldc2 dX5_set_3 ct_RX5_102 ?_
  refine xf_SI3 dX5_set_6 ml_RX5_86 vw_X5_in st_X5_in (sp_in (by unfold inl; unfold inr at hk; omega) (by unfold inl; omega) (by unfold inl; omega)) ⟨Nat.le_of_ble_eq_true rfl, Nat.le_of_ble_eq_true rfl, Nat.le_of_ble_eq_true rfl, Nat.le_of_ble_eq_true rfl, Nat.le_of_ble_eq_true rfl⟩ ?_
  refine x_if_eq 34 dX5_set_9 (by decide) (by unfold inr; split <;> omega) (fun h_9 => ?_) (fun h_9 => ?_)
  · replace h_9 := b0 h_9
    refine x_bipush dX5_set_34 (by decide) ?_
    refine hret _ _ _ _ _ _ dX5_set_36 rfl ?_
    have hr : (k = 0 → rmst k = 99) ∧ (k ≠ 0 → rmst k = 50) := by unfold rmst; omega
    first
    | (refine ⟨rfl, rfl, ?_, fun a b => ?_⟩
       · rw [if_neg (by omega)]
       · rw [if_neg (by omega)])
    | (have hkk : k = 0 ∨ k = 1 ∨ k = 2 := by omega
       rcases hkk with rfl | rfl | rfl <;> first
       | (exfalso; omega)
       | (refine ⟨rfl, rfl, ?_, fun a b => ?_⟩
          · rw [if_pos (by omega)]; rfl
          · have e : (Int.toNat 0 = 0) ∧ (Int.toNat 1 = 1) ∧ (Int.toNat 2 = 2) := ⟨rfl, rfl, rfl⟩
            by_cases z : a = 50
            · subst z
              unfold up
              rcases (by omega : b = 2 ∨ b = 3 ∨ b = 4 ∨ (b ≠ 2 ∧ b ≠ 3 ∧ b ≠ 4)) with rfl | rfl | rfl | z2 <;> (repeat' split) <;> first | rfl | omega
            · rw [up_n1 z, up_n1 z, up_n1 z, if_neg (by omega)]))
  · replace h_9 := b1 h_9
    refine x_iload_n dX5_set_12 rfl ?_
    refine x_i2l dX5_set_13 hv ?_
    refine x_lconst0 dX5_set_14 ?_
    refine x_iload_n dX5_set_15 rfl ?_
    refine x_if_ne 25 dX5_set_16 (by decide) hk (fun h_16 => ?_) (fun h_16 => ?_)
    · refine x_ldc2 dX5_set_25 ct_RX5_106 ?_
      refine xf_SI3 dX5_set_28 ml_RX5_86 vw_X5_in st_X5_in (sp_in (by unfold inl; unfold inr at hv; omega) (by unfold inl; omega) (by unfold inl; omega)) ⟨Nat.le_of_ble_eq_true rfl, Nat.le_of_ble_eq_true rfl, Nat.le_of_ble_eq_true rfl, Nat.le_of_ble_eq_true rfl, Nat.le_of_ble_eq_true rfl⟩ ?_
      refine x_if_ne 37 dX5_set_31 (by decide) (by unfold inr; split <;> omega) (fun h_31 => ?_) (fun h_31 => ?_)
      · replace h_31 := b1 h_31
        refine x_iload_n dX5_set_37 rfl ?_
        refine x_if_ne 48 dX5_set_38 (by decide) hk (fun h_38 => ?_) (fun h_38 => ?_)
        · refine x_iload_n dX5_set_48 rfl ?_
          refine x_iconst dX5_set_49 ?_
          refine x_icmp_ne 60 dX5_set_50 (by decide) hk (by unfold inr; omega) (fun h_50 => ?_) (fun h_50 => ?_)
          · refine x_aload_n dX5_set_60 rfl ?_
            refine x_getI dX5_set_61 gf_RX5_63 rfl rfl ?_
            refine x_ist3 dX5_set_64 ?_
            refine x_aload_n dX5_set_65 rfl ?_
            refine x_iload_n dX5_set_66 rfl ?_
            refine x_if_ne 74 dX5_set_67 (by decide) hk (fun h_67 => ?_) (fun h_67 => ?_)
            · refine x_aload_n dX5_set_74 rfl ?_
              refine x_getI dX5_set_75 gf_RX5_66 rfl rfl ?_
              refine x_putI dX5_set_78 pf_RX5_66 rfl rfl ?_
              refine x_aload_n dX5_set_81 rfl ?_
              refine x_iload_n dX5_set_82 rfl ?_
              refine x_iconst dX5_set_83 ?_
              refine x_icmp_ne 91 dX5_set_84 (by decide) hk (by unfold inr; omega) (fun h_84 => ?_) (fun h_84 => ?_)
              · refine x_aload_n dX5_set_91 rfl ?_
                refine x_getI dX5_set_92 gf_RX5_59 rfl rfl ?_
                refine x_putI dX5_set_95 pf_RX5_59 rfl rfl ?_
                refine x_aload_n dX5_set_98 rfl ?_
                refine x_iload_n dX5_set_99 rfl ?_
                refine x_iconst dX5_set_100 ?_
                refine x_icmp_ne 108 dX5_set_101 (by decide) hk (by unfold inr; omega) (fun h_101 => ?_) (fun h_101 => ?_)
                · refine x_aload_n dX5_set_108 rfl ?_
                  refine x_getI dX5_set_109 gf_RX5_63 rfl rfl ?_
                  refine x_putI dX5_set_112 pf_RX5_63 rfl rfl ?_
                  refine x_iload_n dX5_set_115 rfl ?_
                  refine hret _ _ _ _ _ _ dX5_set_116 rfl ?_
                  have hr : (k = 0 → rmst k = 99) ∧ (k ≠ 0 → rmst k = 50) := by unfold rmst; omega
                  first
                  | (refine ⟨rfl, rfl, ?_, fun a b => ?_⟩
                     · rw [if_neg (by omega)]
                     · rw [if_neg (by omega)])
                  | (have hkk : k = 0 ∨ k = 1 ∨ k = 2 := by omega
                     rcases hkk with rfl | rfl | rfl <;> first
                     | (exfalso; omega)
                     | (refine ⟨rfl, rfl, ?_, fun a b => ?_⟩
                        · rw [if_pos (by omega)]; rfl
                        · have e : (Int.toNat 0 = 0) ∧ (Int.toNat 1 = 1) ∧ (Int.toNat 2 = 2) := ⟨rfl, rfl, rfl⟩
                          by_cases z : a = 50
                          · subst z
                            unfold up
                            rcases (by omega : b = 2 ∨ b = 3 ∨ b = 4 ∨ (b ≠ 2 ∧ b ≠ 3 ∧ b ≠ 4)) with rfl | rfl | rfl | z2 <;> (repeat' split) <;> first | rfl | omega
                          · rw [up_n1 z, up_n1 z, up_n1 z, if_neg (by omega)]))
                · refine x_iload_n dX5_set_104 rfl ?_
                  refine x_goto 112 dX5_set_105 (by decide) ?_
                  refine x_putI dX5_set_112 pf_RX5_63 rfl rfl ?_
                  refine x_iload_n dX5_set_115 rfl ?_
                  refine hret _ _ _ _ _ _ dX5_set_116 rfl ?_
                  have hr : (k = 0 → rmst k = 99) ∧ (k ≠ 0 → rmst k = 50) := by unfold rmst; omega
                  first
                  | (refine ⟨rfl, rfl, ?_, fun a b => ?_⟩
                     · rw [if_neg (by omega)]
                     · rw [if_neg (by omega)])
                  | (have hkk : k = 0 ∨ k = 1 ∨ k = 2 := by omega
                     rcases hkk with rfl | rfl | rfl <;> first
                     | (exfalso; omega)
                     | (refine ⟨rfl, rfl, ?_, fun a b => ?_⟩
                        · rw [if_pos (by omega)]; rfl
                        · have e : (Int.toNat 0 = 0) ∧ (Int.toNat 1 = 1) ∧ (Int.toNat 2 = 2) := ⟨rfl, rfl, rfl⟩
                          by_cases z : a = 50
                          · subst z
                            unfold up
                            rcases (by omega : b = 2 ∨ b = 3 ∨ b = 4 ∨ (b ≠ 2 ∧ b ≠ 3 ∧ b ≠ 4)) with rfl | rfl | rfl | z2 <;> (repeat' split) <;> first | rfl | omega
                          · rw [up_n1 z, up_n1 z, up_n1 z, if_neg (by omega)]))
              · refine x_iload_n dX5_set_87 rfl ?_
                refine x_goto 95 dX5_set_88 (by decide) ?_
                refine x_putI dX5_set_95 pf_RX5_59 rfl rfl ?_
                refine x_aload_n dX5_set_98 rfl ?_
                refine x_iload_n dX5_set_99 rfl ?_
                refine x_iconst dX5_set_100 ?_
                refine x_icmp_ne 108 dX5_set_101 (by decide) hk (by unfold inr; omega) (fun h_101 => ?_) (fun h_101 => ?_)
                · refine x_aload_n dX5_set_108 rfl ?_
                  refine x_getI dX5_set_109 gf_RX5_63 rfl rfl ?_
                  refine x_putI dX5_set_112 pf_RX5_63 rfl rfl ?_
                  refine x_iload_n dX5_set_115 rfl ?_
                  refine hret _ _ _ _ _ _ dX5_set_116 rfl ?_
                  have hr : (k = 0 → rmst k = 99) ∧ (k ≠ 0 → rmst k = 50) := by unfold rmst; omega
                  first
                  | (refine ⟨rfl, rfl, ?_, fun a b => ?_⟩
                     · rw [if_neg (by omega)]
                     · rw [if_neg (by omega)])
                  | (have hkk : k = 0 ∨ k = 1 ∨ k = 2 := by omega
                     rcases hkk with rfl | rfl | rfl <;> first
                     | (exfalso; omega)
                     | (refine ⟨rfl, rfl, ?_, fun a b => ?_⟩
                        · rw [if_pos (by omega)]; rfl
                        · have e : (Int.toNat 0 = 0) ∧ (Int.toNat 1 = 1) ∧ (Int.toNat 2 = 2) := ⟨rfl, rfl, rfl⟩
                          by_cases z : a = 50
                          · subst z
                            unfold up
                            rcases (by omega : b = 2 ∨ b = 3 ∨ b = 4 ∨ (b ≠ 2 ∧ b ≠ 3 ∧ b ≠ 4)) with rfl | rfl | rfl | z2 <;> (repeat' split) <;> first | rfl | omega
                          · rw [up_n1 z, up_n1 z, up_n1 z, if_neg (by omega)]))
                · refine x_iload_n dX5_set_104 rfl ?_
                  refine x_goto 112 dX5_set_105 (by decide) ?_
                  refine x_putI dX5_set_112 pf_RX5_63 rfl rfl ?_
                  refine x_iload_n dX5_set_115 rfl ?_
                  refine hret _ _ _ _ _ _ dX5_set_116 rfl ?_
                  have hr : (k = 0 → rmst k = 99) ∧ (k ≠ 0 → rmst k = 50) := by unfold rmst; omega
                  first
                  | (refine ⟨rfl, rfl, ?_, fun a b => ?_⟩
                     · rw [if_neg (by omega)]
                     · rw [if_neg (by omega)])
                  | (have hkk : k = 0 ∨ k = 1 ∨ k = 2 := by omega
                     rcases hkk with rfl | rfl | rfl <;> first
                     | (exfalso; omega)
                     | (refine ⟨rfl, rfl, ?_, fun a b => ?_⟩
                        · rw [if_pos (by omega)]; rfl
                        · have e : (Int.toNat 0 = 0) ∧ (Int.toNat 1 = 1) ∧ (Int.toNat 2 = 2) := ⟨rfl, rfl, rfl⟩
                          by_cases z : a = 50
                          · subst z
                            unfold up
                            rcases (by omega : b = 2 ∨ b = 3 ∨ b = 4 ∨ (b ≠ 2 ∧ b ≠ 3 ∧ b ≠ 4)) with rfl | rfl | rfl | z2 <;> (repeat' split) <;> first | rfl | omega
                          · rw [up_n1 z, up_n1 z, up_n1 z, if_neg (by omega)]))
            · refine x_iload_n dX5_set_70 rfl ?_
              refine x_goto 78 dX5_set_71 (by decide) ?_
              refine x_putI dX5_set_78 pf_RX5_66 rfl rfl ?_
              refine x_aload_n dX5_set_81 rfl ?_
              refine x_iload_n dX5_set_82 rfl ?_
              refine x_iconst dX5_set_83 ?_
              refine x_icmp_ne 91 dX5_set_84 (by decide) hk (by unfold inr; omega) (fun h_84 => ?_) (fun h_84 => ?_)
              · refine x_aload_n dX5_set_91 rfl ?_
                refine x_getI dX5_set_92 gf_RX5_59 rfl rfl ?_
                refine x_putI dX5_set_95 pf_RX5_59 rfl rfl ?_
                refine x_aload_n dX5_set_98 rfl ?_
                refine x_iload_n dX5_set_99 rfl ?_
                refine x_iconst dX5_set_100 ?_
                refine x_icmp_ne 108 dX5_set_101 (by decide) hk (by unfold inr; omega) (fun h_101 => ?_) (fun h_101 => ?_)
                · refine x_aload_n dX5_set_108 rfl ?_
                  refine x_getI dX5_set_109 gf_RX5_63 rfl rfl ?_
                  refine x_putI dX5_set_112 pf_RX5_63 rfl rfl ?_
                  refine x_iload_n dX5_set_115 rfl ?_
                  refine hret _ _ _ _ _ _ dX5_set_116 rfl ?_
                  have hr : (k = 0 → rmst k = 99) ∧ (k ≠ 0 → rmst k = 50) := by unfold rmst; omega
                  first
                  | (refine ⟨rfl, rfl, ?_, fun a b => ?_⟩
                     · rw [if_neg (by omega)]
                     · rw [if_neg (by omega)])
                  | (have hkk : k = 0 ∨ k = 1 ∨ k = 2 := by omega
                     rcases hkk with rfl | rfl | rfl <;> first
                     | (exfalso; omega)
                     | (refine ⟨rfl, rfl, ?_, fun a b => ?_⟩
                        · rw [if_pos (by omega)]; rfl
                        · have e : (Int.toNat 0 = 0) ∧ (Int.toNat 1 = 1) ∧ (Int.toNat 2 = 2) := ⟨rfl, rfl, rfl⟩
                          by_cases z : a = 50
                          · subst z
                            unfold up
                            rcases (by omega : b = 2 ∨ b = 3 ∨ b = 4 ∨ (b ≠ 2 ∧ b ≠ 3 ∧ b ≠ 4)) with rfl | rfl | rfl | z2 <;> (repeat' split) <;> first | rfl | omega
                          · rw [up_n1 z, up_n1 z, up_n1 z, if_neg (by omega)]))
                · refine x_iload_n dX5_set_104 rfl ?_
                  refine x_goto 112 dX5_set_105 (by decide) ?_
                  refine x_putI dX5_set_112 pf_RX5_63 rfl rfl ?_
                  refine x_iload_n dX5_set_115 rfl ?_
                  refine hret _ _ _ _ _ _ dX5_set_116 rfl ?_
                  have hr : (k = 0 → rmst k = 99) ∧ (k ≠ 0 → rmst k = 50) := by unfold rmst; omega
                  first
                  | (refine ⟨rfl, rfl, ?_, fun a b => ?_⟩
                     · rw [if_neg (by omega)]
                     · rw [if_neg (by omega)])
                  | (have hkk : k = 0 ∨ k = 1 ∨ k = 2 := by omega
                     rcases hkk with rfl | rfl | rfl <;> first
                     | (exfalso; omega)
                     | (refine ⟨rfl, rfl, ?_, fun a b => ?_⟩
                        · rw [if_pos (by omega)]; rfl
                        · have e : (Int.toNat 0 = 0) ∧ (Int.toNat 1 = 1) ∧ (Int.toNat 2 = 2) := ⟨rfl, rfl, rfl⟩
                          by_cases z : a = 50
                          · subst z
                            unfold up
                            rcases (by omega : b = 2 ∨ b = 3 ∨ b = 4 ∨ (b ≠ 2 ∧ b ≠ 3 ∧ b ≠ 4)) with rfl | rfl | rfl | z2 <;> (repeat' split) <;> first | rfl | omega
                          · rw [up_n1 z, up_n1 z, up_n1 z, if_neg (by omega)]))
              · refine x_iload_n dX5_set_87 rfl ?_
                refine x_goto 95 dX5_set_88 (by decide) ?_
                refine x_putI dX5_set_95 pf_RX5_59 rfl rfl ?_
                refine x_aload_n dX5_set_98 rfl ?_
                refine x_iload_n dX5_set_99 rfl ?_
                refine x_iconst dX5_set_100 ?_
                refine x_icmp_ne 108 dX5_set_101 (by decide) hk (by unfold inr; omega) (fun h_101 => ?_) (fun h_101 => ?_)
                · refine x_aload_n dX5_set_108 rfl ?_
                  refine x_getI dX5_set_109 gf_RX5_63 rfl rfl ?_
                  refine x_putI dX5_set_112 pf_RX5_63 rfl rfl ?_
                  refine x_iload_n dX5_set_115 rfl ?_
                  refine hret _ _ _ _ _ _ dX5_set_116 rfl ?_
                  have hr : (k = 0 → rmst k = 99) ∧ (k ≠ 0 → rmst k = 50) := by unfold rmst; omega
                  first
                  | (refine ⟨rfl, rfl, ?_, fun a b => ?_⟩
                     · rw [if_neg (by omega)]
                     · rw [if_neg (by omega)])
                  | (have hkk : k = 0 ∨ k = 1 ∨ k = 2 := by omega
                     rcases hkk with rfl | rfl | rfl <;> first
                     | (exfalso; omega)
                     | (refine ⟨rfl, rfl, ?_, fun a b => ?_⟩
                        · rw [if_pos (by omega)]; rfl
                        · have e : (Int.toNat 0 = 0) ∧ (Int.toNat 1 = 1) ∧ (Int.toNat 2 = 2) := ⟨rfl, rfl, rfl⟩
                          by_cases z : a = 50
                          · subst z
                            unfold up
                            rcases (by omega : b = 2 ∨ b = 3 ∨ b = 4 ∨ (b ≠ 2 ∧ b ≠ 3 ∧ b ≠ 4)) with rfl | rfl | rfl | z2 <;> (repeat' split) <;> first | rfl | omega
                          · rw [up_n1 z, up_n1 z, up_n1 z, if_neg (by omega)]))
                · refine x_iload_n dX5_set_104 rfl ?_
                  refine x_goto 112 dX5_set_105 (by decide) ?_
                  refine x_putI dX5_set_112 pf_RX5_63 rfl rfl ?_
                  refine x_iload_n dX5_set_115 rfl ?_
                  refine hret _ _ _ _ _ _ dX5_set_116 rfl ?_
                  have hr : (k = 0 → rmst k = 99) ∧ (k ≠ 0 → rmst k = 50) := by unfold rmst; omega
                  first
                  | (refine ⟨rfl, rfl, ?_, fun a b => ?_⟩
                     · rw [if_neg (by omega)]
                     · rw [if_neg (by omega)])
                  | (have hkk : k = 0 ∨ k = 1 ∨ k = 2 := by omega
                     rcases hkk with rfl | rfl | rfl <;> first
                     | (exfalso; omega)
                     | (refine ⟨rfl, rfl, ?_, fun a b => ?_⟩
                        · rw [if_pos (by omega)]; rfl
                        · have e : (Int.toNat 0 = 0) ∧ (Int.toNat 1 = 1) ∧ (Int.toNat 2 = 2) := ⟨rfl, rfl, rfl⟩
                          by_cases z : a = 50
                          · subst z
                            unfold up
                            rcases (by omega : b = 2 ∨ b = 3 ∨ b = 4 ∨ (b ≠ 2 ∧ b ≠ 3 ∧ b ≠ 4)) with rfl | rfl | rfl | z2 <;> (repeat' split) <;> first | rfl | omega
                          · rw [up_n1 z, up_n1 z, up_n1 z, if_neg (by omega)]))
          · refine x_aload_n dX5_set_53 rfl ?_
            refine x_getI dX5_set_54 gf_RX5_59 rfl rfl ?_
            refine x_goto 64 dX5_set_57 (by decide) ?_
            refine x_ist3 dX5_set_64 ?_
            refine x_aload_n dX5_set_65 rfl ?_
            refine x_iload_n dX5_set_66 rfl ?_
            refine x_if_ne 74 dX5_set_67 (by decide) hk (fun h_67 => ?_) (fun h_67 => ?_)
            · refine x_aload_n dX5_set_74 rfl ?_
              refine x_getI dX5_set_75 gf_RX5_66 rfl rfl ?_
              refine x_putI dX5_set_78 pf_RX5_66 rfl rfl ?_
              refine x_aload_n dX5_set_81 rfl ?_
              refine x_iload_n dX5_set_82 rfl ?_
              refine x_iconst dX5_set_83 ?_
              refine x_icmp_ne 91 dX5_set_84 (by decide) hk (by unfold inr; omega) (fun h_84 => ?_) (fun h_84 => ?_)
              · refine x_aload_n dX5_set_91 rfl ?_
                refine x_getI dX5_set_92 gf_RX5_59 rfl rfl ?_
                refine x_putI dX5_set_95 pf_RX5_59 rfl rfl ?_
                refine x_aload_n dX5_set_98 rfl ?_
                refine x_iload_n dX5_set_99 rfl ?_
                refine x_iconst dX5_set_100 ?_
                refine x_icmp_ne 108 dX5_set_101 (by decide) hk (by unfold inr; omega) (fun h_101 => ?_) (fun h_101 => ?_)
                · refine x_aload_n dX5_set_108 rfl ?_
                  refine x_getI dX5_set_109 gf_RX5_63 rfl rfl ?_
                  refine x_putI dX5_set_112 pf_RX5_63 rfl rfl ?_
                  refine x_iload_n dX5_set_115 rfl ?_
                  refine hret _ _ _ _ _ _ dX5_set_116 rfl ?_
                  have hr : (k = 0 → rmst k = 99) ∧ (k ≠ 0 → rmst k = 50) := by unfold rmst; omega
                  first
                  | (refine ⟨rfl, rfl, ?_, fun a b => ?_⟩
                     · rw [if_neg (by omega)]
                     · rw [if_neg (by omega)])
                  | (have hkk : k = 0 ∨ k = 1 ∨ k = 2 := by omega
                     rcases hkk with rfl | rfl | rfl <;> first
                     | (exfalso; omega)
                     | (refine ⟨rfl, rfl, ?_, fun a b => ?_⟩
                        · rw [if_pos (by omega)]; rfl
                        · have e : (Int.toNat 0 = 0) ∧ (Int.toNat 1 = 1) ∧ (Int.toNat 2 = 2) := ⟨rfl, rfl, rfl⟩
                          by_cases z : a = 50
                          · subst z
                            unfold up
                            rcases (by omega : b = 2 ∨ b = 3 ∨ b = 4 ∨ (b ≠ 2 ∧ b ≠ 3 ∧ b ≠ 4)) with rfl | rfl | rfl | z2 <;> (repeat' split) <;> first | rfl | omega
                          · rw [up_n1 z, up_n1 z, up_n1 z, if_neg (by omega)]))
                · refine x_iload_n dX5_set_104 rfl ?_
                  refine x_goto 112 dX5_set_105 (by decide) ?_
                  refine x_putI dX5_set_112 pf_RX5_63 rfl rfl ?_
                  refine x_iload_n dX5_set_115 rfl ?_
                  refine hret _ _ _ _ _ _ dX5_set_116 rfl ?_
                  have hr : (k = 0 → rmst k = 99) ∧ (k ≠ 0 → rmst k = 50) := by unfold rmst; omega
                  first
                  | (refine ⟨rfl, rfl, ?_, fun a b => ?_⟩
                     · rw [if_neg (by omega)]
                     · rw [if_neg (by omega)])
                  | (have hkk : k = 0 ∨ k = 1 ∨ k = 2 := by omega
                     rcases hkk with rfl | rfl | rfl <;> first
                     | (exfalso; omega)
                     | (refine ⟨rfl, rfl, ?_, fun a b => ?_⟩
                        · rw [if_pos (by omega)]; rfl
                        · have e : (Int.toNat 0 = 0) ∧ (Int.toNat 1 = 1) ∧ (Int.toNat 2 = 2) := ⟨rfl, rfl, rfl⟩
                          by_cases z : a = 50
                          · subst z
                            unfold up
                            rcases (by omega : b = 2 ∨ b = 3 ∨ b = 4 ∨ (b ≠ 2 ∧ b ≠ 3 ∧ b ≠ 4)) with rfl | rfl | rfl | z2 <;> (repeat' split) <;> first | rfl | omega
                          · rw [up_n1 z, up_n1 z, up_n1 z, if_neg (by omega)]))
              · refine x_iload_n dX5_set_87 rfl ?_
                refine x_goto 95 dX5_set_88 (by decide) ?_
                refine x_putI dX5_set_95 pf_RX5_59 rfl rfl ?_
                refine x_aload_n dX5_set_98 rfl ?_
                refine x_iload_n dX5_set_99 rfl ?_
                refine x_iconst dX5_set_100 ?_
                refine x_icmp_ne 108 dX5_set_101 (by decide) hk (by unfold inr; omega) (fun h_101 => ?_) (fun h_101 => ?_)
                · refine x_aload_n dX5_set_108 rfl ?_
                  refine x_getI dX5_set_109 gf_RX5_63 rfl rfl ?_
                  refine x_putI dX5_set_112 pf_RX5_63 rfl rfl ?_
                  refine x_iload_n dX5_set_115 rfl ?_
                  refine hret _ _ _ _ _ _ dX5_set_116 rfl ?_
                  have hr : (k = 0 → rmst k = 99) ∧ (k ≠ 0 → rmst k = 50) := by unfold rmst; omega
                  first
                  | (refine ⟨rfl, rfl, ?_, fun a b => ?_⟩
                     · rw [if_neg (by omega)]
                     · rw [if_neg (by omega)])
                  | (have hkk : k = 0 ∨ k = 1 ∨ k = 2 := by omega
                     rcases hkk with rfl | rfl | rfl <;> first
                     | (exfalso; omega)
                     | (refine ⟨rfl, rfl, ?_, fun a b => ?_⟩
                        · rw [if_pos (by omega)]; rfl
                        · have e : (Int.toNat 0 = 0) ∧ (Int.toNat 1 = 1) ∧ (Int.toNat 2 = 2) := ⟨rfl, rfl, rfl⟩
                          by_cases z : a = 50
                          · subst z
                            unfold up
                            rcases (by omega : b = 2 ∨ b = 3 ∨ b = 4 ∨ (b ≠ 2 ∧ b ≠ 3 ∧ b ≠ 4)) with rfl | rfl | rfl | z2 <;> (repeat' split) <;> first | rfl | omega
                          · rw [up_n1 z, up_n1 z, up_n1 z, if_neg (by omega)]))
                · refine x_iload_n dX5_set_104 rfl ?_
                  refine x_goto 112 dX5_set_105 (by decide) ?_
                  refine x_putI dX5_set_112 pf_RX5_63 rfl rfl ?_
                  refine x_iload_n dX5_set_115 rfl ?_
                  refine hret _ _ _ _ _ _ dX5_set_116 rfl ?_
                  have hr : (k = 0 → rmst k = 99) ∧ (k ≠ 0 → rmst k = 50) := by unfold rmst; omega
                  first
                  | (refine ⟨rfl, rfl, ?_, fun a b => ?_⟩
                     · rw [if_neg (by omega)]
                     · rw [if_neg (by omega)])
                  | (have hkk : k = 0 ∨ k = 1 ∨ k = 2 := by omega
                     rcases hkk with rfl | rfl | rfl <;> first
                     | (exfalso; omega)
                     | (refine ⟨rfl, rfl, ?_, fun a b => ?_⟩
                        · rw [if_pos (by omega)]; rfl
                        · have e : (Int.toNat 0 = 0) ∧ (Int.toNat 1 = 1) ∧ (Int.toNat 2 = 2) := ⟨rfl, rfl, rfl⟩
                          by_cases z : a = 50
                          · subst z
                            unfold up
                            rcases (by omega : b = 2 ∨ b = 3 ∨ b = 4 ∨ (b ≠ 2 ∧ b ≠ 3 ∧ b ≠ 4)) with rfl | rfl | rfl | z2 <;> (repeat' split) <;> first | rfl | omega
                          · rw [up_n1 z, up_n1 z, up_n1 z, if_neg (by omega)]))
            · refine x_iload_n dX5_set_70 rfl ?_
              refine x_goto 78 dX5_set_71 (by decide) ?_
              refine x_putI dX5_set_78 pf_RX5_66 rfl rfl ?_
              refine x_aload_n dX5_set_81 rfl ?_
              refine x_iload_n dX5_set_82 rfl ?_
              refine x_iconst dX5_set_83 ?_
              refine x_icmp_ne 91 dX5_set_84 (by decide) hk (by unfold inr; omega) (fun h_84 => ?_) (fun h_84 => ?_)
              · refine x_aload_n dX5_set_91 rfl ?_
                refine x_getI dX5_set_92 gf_RX5_59 rfl rfl ?_
                refine x_putI dX5_set_95 pf_RX5_59 rfl rfl ?_
                refine x_aload_n dX5_set_98 rfl ?_
                refine x_iload_n dX5_set_99 rfl ?_
                refine x_iconst dX5_set_100 ?_
                refine x_icmp_ne 108 dX5_set_101 (by decide) hk (by unfold inr; omega) (fun h_101 => ?_) (fun h_101 => ?_)
                · refine x_aload_n dX5_set_108 rfl ?_
                  refine x_getI dX5_set_109 gf_RX5_63 rfl rfl ?_
                  refine x_putI dX5_set_112 pf_RX5_63 rfl rfl ?_
                  refine x_iload_n dX5_set_115 rfl ?_
                  refine hret _ _ _ _ _ _ dX5_set_116 rfl ?_
                  have hr : (k = 0 → rmst k = 99) ∧ (k ≠ 0 → rmst k = 50) := by unfold rmst; omega
                  first
                  | (refine ⟨rfl, rfl, ?_, fun a b => ?_⟩
                     · rw [if_neg (by omega)]
                     · rw [if_neg (by omega)])
                  | (have hkk : k = 0 ∨ k = 1 ∨ k = 2 := by omega
                     rcases hkk with rfl | rfl | rfl <;> first
                     | (exfalso; omega)
                     | (refine ⟨rfl, rfl, ?_, fun a b => ?_⟩
                        · rw [if_pos (by omega)]; rfl
                        · have e : (Int.toNat 0 = 0) ∧ (Int.toNat 1 = 1) ∧ (Int.toNat 2 = 2) := ⟨rfl, rfl, rfl⟩
                          by_cases z : a = 50
                          · subst z
                            unfold up
                            rcases (by omega : b = 2 ∨ b = 3 ∨ b = 4 ∨ (b ≠ 2 ∧ b ≠ 3 ∧ b ≠ 4)) with rfl | rfl | rfl | z2 <;> (repeat' split) <;> first | rfl | omega
                          · rw [up_n1 z, up_n1 z, up_n1 z, if_neg (by omega)]))
                · refine x_iload_n dX5_set_104 rfl ?_
                  refine x_goto 112 dX5_set_105 (by decide) ?_
                  refine x_putI dX5_set_112 pf_RX5_63 rfl rfl ?_
                  refine x_iload_n dX5_set_115 rfl ?_
                  refine hret _ _ _ _ _ _ dX5_set_116 rfl ?_
                  have hr : (k = 0 → rmst k = 99) ∧ (k ≠ 0 → rmst k = 50) := by unfold rmst; omega
                  first
                  | (refine ⟨rfl, rfl, ?_, fun a b => ?_⟩
                     · rw [if_neg (by omega)]
                     · rw [if_neg (by omega)])
                  | (have hkk : k = 0 ∨ k = 1 ∨ k = 2 := by omega
                     rcases hkk with rfl | rfl | rfl <;> first
                     | (exfalso; omega)
                     | (refine ⟨rfl, rfl, ?_, fun a b => ?_⟩
                        · rw [if_pos (by omega)]; rfl
                        · have e : (Int.toNat 0 = 0) ∧ (Int.toNat 1 = 1) ∧ (Int.toNat 2 = 2) := ⟨rfl, rfl, rfl⟩
                          by_cases z : a = 50
                          · subst z
                            unfold up
                            rcases (by omega : b = 2 ∨ b = 3 ∨ b = 4 ∨ (b ≠ 2 ∧ b ≠ 3 ∧ b ≠ 4)) with rfl | rfl | rfl | z2 <;> (repeat' split) <;> first | rfl | omega
                          · rw [up_n1 z, up_n1 z, up_n1 z, if_neg (by omega)]))
              · refine x_iload_n dX5_set_87 rfl ?_
                refine x_goto 95 dX5_set_88 (by decide) ?_
                refine x_putI dX5_set_95 pf_RX5_59 rfl rfl ?_
                refine x_aload_n dX5_set_98 rfl ?_
                refine x_iload_n dX5_set_99 rfl ?_
                refine x_iconst dX5_set_100 ?_
                refine x_icmp_ne 108 dX5_set_101 (by decide) hk (by unfold inr; omega) (fun h_101 => ?_) (fun h_101 => ?_)
                · refine x_aload_n dX5_set_108 rfl ?_
                  refine x_getI dX5_set_109 gf_RX5_63 rfl rfl ?_
                  refine x_putI dX5_set_112 pf_RX5_63 rfl rfl ?_
                  refine x_iload_n dX5_set_115 rfl ?_
                  refine hret _ _ _ _ _ _ dX5_set_116 rfl ?_
                  have hr : (k = 0 → rmst k = 99) ∧ (k ≠ 0 → rmst k = 50) := by unfold rmst; omega
                  first
                  | (refine ⟨rfl, rfl, ?_, fun a b => ?_⟩
                     · rw [if_neg (by omega)]
                     · rw [if_neg (by omega)])
                  | (have hkk : k = 0 ∨ k = 1 ∨ k = 2 := by omega
                     rcases hkk with rfl | rfl | rfl <;> first
                     | (exfalso; omega)
                     | (refine ⟨rfl, rfl, ?_, fun a b => ?_⟩
                        · rw [if_pos (by omega)]; rfl
                        · have e : (Int.toNat 0 = 0) ∧ (Int.toNat 1 = 1) ∧ (Int.toNat 2 = 2) := ⟨rfl, rfl, rfl⟩
                          by_cases z : a = 50
                          · subst z
                            unfold up
                            rcases (by omega : b = 2 ∨ b = 3 ∨ b = 4 ∨ (b ≠ 2 ∧ b ≠ 3 ∧ b ≠ 4)) with rfl | rfl | rfl | z2 <;> (repeat' split) <;> first | rfl | omega
                          · rw [up_n1 z, up_n1 z, up_n1 z, if_neg (by omega)]))
                · refine x_iload_n dX5_set_104 rfl ?_
                  refine x_goto 112 dX5_set_105 (by decide) ?_
                  refine x_putI dX5_set_112 pf_RX5_63 rfl rfl ?_
                  refine x_iload_n dX5_set_115 rfl ?_
                  refine hret _ _ _ _ _ _ dX5_set_116 rfl ?_
                  have hr : (k = 0 → rmst k = 99) ∧ (k ≠ 0 → rmst k = 50) := by unfold rmst; omega
                  first
                  | (refine ⟨rfl, rfl, ?_, fun a b => ?_⟩
                     · rw [if_neg (by omega)]
                     · rw [if_neg (by omega)])
                  | (have hkk : k = 0 ∨ k = 1 ∨ k = 2 := by omega
                     rcases hkk with rfl | rfl | rfl <;> first
                     | (exfalso; omega)
                     | (refine ⟨rfl, rfl, ?_, fun a b => ?_⟩
                        · rw [if_pos (by omega)]; rfl
                        · have e : (Int.toNat 0 = 0) ∧ (Int.toNat 1 = 1) ∧ (Int.toNat 2 = 2) := ⟨rfl, rfl, rfl⟩
                          by_cases z : a = 50
                          · subst z
                            unfold up
                            rcases (by omega : b = 2 ∨ b = 3 ∨ b = 4 ∨ (b ≠ 2 ∧ b ≠ 3 ∧ b ≠ 4)) with rfl | rfl | rfl | z2 <;> (repeat' split) <;> first | rfl | omega
                          · rw [up_n1 z, up_n1 z, up_n1 z, if_neg (by omega)]))
        · refine x_aload_n dX5_set_41 rfl ?_
          refine x_getI dX5_set_42 gf_RX5_66 rfl rfl ?_
          refine x_goto 64 dX5_set_45 (by decide) ?_
          refine x_ist3 dX5_set_64 ?_
          refine x_aload_n dX5_set_65 rfl ?_
          refine x_iload_n dX5_set_66 rfl ?_
          refine x_if_ne 74 dX5_set_67 (by decide) hk (fun h_67 => ?_) (fun h_67 => ?_)
          · refine x_aload_n dX5_set_74 rfl ?_
            refine x_getI dX5_set_75 gf_RX5_66 rfl rfl ?_
            refine x_putI dX5_set_78 pf_RX5_66 rfl rfl ?_
            refine x_aload_n dX5_set_81 rfl ?_
            refine x_iload_n dX5_set_82 rfl ?_
            refine x_iconst dX5_set_83 ?_
            refine x_icmp_ne 91 dX5_set_84 (by decide) hk (by unfold inr; omega) (fun h_84 => ?_) (fun h_84 => ?_)
            · refine x_aload_n dX5_set_91 rfl ?_
              refine x_getI dX5_set_92 gf_RX5_59 rfl rfl ?_
              refine x_putI dX5_set_95 pf_RX5_59 rfl rfl ?_
              refine x_aload_n dX5_set_98 rfl ?_
              refine x_iload_n dX5_set_99 rfl ?_
              refine x_iconst dX5_set_100 ?_
              refine x_icmp_ne 108 dX5_set_101 (by decide) hk (by unfold inr; omega) (fun h_101 => ?_) (fun h_101 => ?_)
              · refine x_aload_n dX5_set_108 rfl ?_
                refine x_getI dX5_set_109 gf_RX5_63 rfl rfl ?_
                refine x_putI dX5_set_112 pf_RX5_63 rfl rfl ?_
                refine x_iload_n dX5_set_115 rfl ?_
                refine hret _ _ _ _ _ _ dX5_set_116 rfl ?_
                have hr : (k = 0 → rmst k = 99) ∧ (k ≠ 0 → rmst k = 50) := by unfold rmst; omega
                first
                | (refine ⟨rfl, rfl, ?_, fun a b => ?_⟩
                   · rw [if_neg (by omega)]
                   · rw [if_neg (by omega)])
                | (have hkk : k = 0 ∨ k = 1 ∨ k = 2 := by omega
                   rcases hkk with rfl | rfl | rfl <;> first
                   | (exfalso; omega)
                   | (refine ⟨rfl, rfl, ?_, fun a b => ?_⟩
                      · rw [if_pos (by omega)]; rfl
                      · have e : (Int.toNat 0 = 0) ∧ (Int.toNat 1 = 1) ∧ (Int.toNat 2 = 2) := ⟨rfl, rfl, rfl⟩
                        by_cases z : a = 50
                        · subst z
                          unfold up
                          rcases (by omega : b = 2 ∨ b = 3 ∨ b = 4 ∨ (b ≠ 2 ∧ b ≠ 3 ∧ b ≠ 4)) with rfl | rfl | rfl | z2 <;> (repeat' split) <;> first | rfl | omega
                        · rw [up_n1 z, up_n1 z, up_n1 z, if_neg (by omega)]))
              · refine x_iload_n dX5_set_104 rfl ?_
                refine x_goto 112 dX5_set_105 (by decide) ?_
                refine x_putI dX5_set_112 pf_RX5_63 rfl rfl ?_
                refine x_iload_n dX5_set_115 rfl ?_
                refine hret _ _ _ _ _ _ dX5_set_116 rfl ?_
                have hr : (k = 0 → rmst k = 99) ∧ (k ≠ 0 → rmst k = 50) := by unfold rmst; omega
                first
                | (refine ⟨rfl, rfl, ?_, fun a b => ?_⟩
                   · rw [if_neg (by omega)]
                   · rw [if_neg (by omega)])
                | (have hkk : k = 0 ∨ k = 1 ∨ k = 2 := by omega
                   rcases hkk with rfl | rfl | rfl <;> first
                   | (exfalso; omega)
                   | (refine ⟨rfl, rfl, ?_, fun a b => ?_⟩
                      · rw [if_pos (by omega)]; rfl
                      · have e : (Int.toNat 0 = 0) ∧ (Int.toNat 1 = 1) ∧ (Int.toNat 2 = 2) := ⟨rfl, rfl, rfl⟩
                        by_cases z : a = 50
                        · subst z
                          unfold up
                          rcases (by omega : b = 2 ∨ b = 3 ∨ b = 4 ∨ (b ≠ 2 ∧ b ≠ 3 ∧ b ≠ 4)) with rfl | rfl | rfl | z2 <;> (repeat' split) <;> first | rfl | omega
                        · rw [up_n1 z, up_n1 z, up_n1 z, if_neg (by omega)]))
            · refine x_iload_n dX5_set_87 rfl ?_
              refine x_goto 95 dX5_set_88 (by decide) ?_
              refine x_putI dX5_set_95 pf_RX5_59 rfl rfl ?_
              refine x_aload_n dX5_set_98 rfl ?_
              refine x_iload_n dX5_set_99 rfl ?_
              refine x_iconst dX5_set_100 ?_
              refine x_icmp_ne 108 dX5_set_101 (by decide) hk (by unfold inr; omega) (fun h_101 => ?_) (fun h_101 => ?_)
              · refine x_aload_n dX5_set_108 rfl ?_
                refine x_getI dX5_set_109 gf_RX5_63 rfl rfl ?_
                refine x_putI dX5_set_112 pf_RX5_63 rfl rfl ?_
                refine x_iload_n dX5_set_115 rfl ?_
                refine hret _ _ _ _ _ _ dX5_set_116 rfl ?_
                have hr : (k = 0 → rmst k = 99) ∧ (k ≠ 0 → rmst k = 50) := by unfold rmst; omega
                first
                | (refine ⟨rfl, rfl, ?_, fun a b => ?_⟩
                   · rw [if_neg (by omega)]
                   · rw [if_neg (by omega)])
                | (have hkk : k = 0 ∨ k = 1 ∨ k = 2 := by omega
                   rcases hkk with rfl | rfl | rfl <;> first
                   | (exfalso; omega)
                   | (refine ⟨rfl, rfl, ?_, fun a b => ?_⟩
                      · rw [if_pos (by omega)]; rfl
                      · have e : (Int.toNat 0 = 0) ∧ (Int.toNat 1 = 1) ∧ (Int.toNat 2 = 2) := ⟨rfl, rfl, rfl⟩
                        by_cases z : a = 50
                        · subst z
                          unfold up
                          rcases (by omega : b = 2 ∨ b = 3 ∨ b = 4 ∨ (b ≠ 2 ∧ b ≠ 3 ∧ b ≠ 4)) with rfl | rfl | rfl | z2 <;> (repeat' split) <;> first | rfl | omega
                        · rw [up_n1 z, up_n1 z, up_n1 z, if_neg (by omega)]))
              · refine x_iload_n dX5_set_104 rfl ?_
                refine x_goto 112 dX5_set_105 (by decide) ?_
                refine x_putI dX5_set_112 pf_RX5_63 rfl rfl ?_
                refine x_iload_n dX5_set_115 rfl ?_
                refine hret _ _ _ _ _ _ dX5_set_116 rfl ?_
                have hr : (k = 0 → rmst k = 99) ∧ (k ≠ 0 → rmst k = 50) := by unfold rmst; omega
                first
                | (refine ⟨rfl, rfl, ?_, fun a b => ?_⟩
                   · rw [if_neg (by omega)]
                   · rw [if_neg (by omega)])
                | (have hkk : k = 0 ∨ k = 1 ∨ k = 2 := by omega
                   rcases hkk with rfl | rfl | rfl <;> first
                   | (exfalso; omega)
                   | (refine ⟨rfl, rfl, ?_, fun a b => ?_⟩
                      · rw [if_pos (by omega)]; rfl
                      · have e : (Int.toNat 0 = 0) ∧ (Int.toNat 1 = 1) ∧ (Int.toNat 2 = 2) := ⟨rfl, rfl, rfl⟩
                        by_cases z : a = 50
                        · subst z
                          unfold up
                          rcases (by omega : b = 2 ∨ b = 3 ∨ b = 4 ∨ (b ≠ 2 ∧ b ≠ 3 ∧ b ≠ 4)) with rfl | rfl | rfl | z2 <;> (repeat' split) <;> first | rfl | omega
                        · rw [up_n1 z, up_n1 z, up_n1 z, if_neg (by omega)]))
          · refine x_iload_n dX5_set_70 rfl ?_
            refine x_goto 78 dX5_set_71 (by decide) ?_
            refine x_putI dX5_set_78 pf_RX5_66 rfl rfl ?_
            refine x_aload_n dX5_set_81 rfl ?_
            refine x_iload_n dX5_set_82 rfl ?_
            refine x_iconst dX5_set_83 ?_
            refine x_icmp_ne 91 dX5_set_84 (by decide) hk (by unfold inr; omega) (fun h_84 => ?_) (fun h_84 => ?_)
            · refine x_aload_n dX5_set_91 rfl ?_
              refine x_getI dX5_set_92 gf_RX5_59 rfl rfl ?_
              refine x_putI dX5_set_95 pf_RX5_59 rfl rfl ?_
              refine x_aload_n dX5_set_98 rfl ?_
              refine x_iload_n dX5_set_99 rfl ?_
              refine x_iconst dX5_set_100 ?_
              refine x_icmp_ne 108 dX5_set_101 (by decide) hk (by unfold inr; omega) (fun h_101 => ?_) (fun h_101 => ?_)
              · refine x_aload_n dX5_set_108 rfl ?_
                refine x_getI dX5_set_109 gf_RX5_63 rfl rfl ?_
                refine x_putI dX5_set_112 pf_RX5_63 rfl rfl ?_
                refine x_iload_n dX5_set_115 rfl ?_
                refine hret _ _ _ _ _ _ dX5_set_116 rfl ?_
                have hr : (k = 0 → rmst k = 99) ∧ (k ≠ 0 → rmst k = 50) := by unfold rmst; omega
                first
                | (refine ⟨rfl, rfl, ?_, fun a b => ?_⟩
                   · rw [if_neg (by omega)]
                   · rw [if_neg (by omega)])
                | (have hkk : k = 0 ∨ k = 1 ∨ k = 2 := by omega
                   rcases hkk with rfl | rfl | rfl <;> first
                   | (exfalso; omega)
                   | (refine ⟨rfl, rfl, ?_, fun a b => ?_⟩
                      · rw [if_pos (by omega)]; rfl
                      · have e : (Int.toNat 0 = 0) ∧ (Int.toNat 1 = 1) ∧ (Int.toNat 2 = 2) := ⟨rfl, rfl, rfl⟩
                        by_cases z : a = 50
                        · subst z
                          unfold up
                          rcases (by omega : b = 2 ∨ b = 3 ∨ b = 4 ∨ (b ≠ 2 ∧ b ≠ 3 ∧ b ≠ 4)) with rfl | rfl | rfl | z2 <;> (repeat' split) <;> first | rfl | omega
                        · rw [up_n1 z, up_n1 z, up_n1 z, if_neg (by omega)]))
              · refine x_iload_n dX5_set_104 rfl ?_
                refine x_goto 112 dX5_set_105 (by decide) ?_
                refine x_putI dX5_set_112 pf_RX5_63 rfl rfl ?_
                refine x_iload_n dX5_set_115 rfl ?_
                refine hret _ _ _ _ _ _ dX5_set_116 rfl ?_
                have hr : (k = 0 → rmst k = 99) ∧ (k ≠ 0 → rmst k = 50) := by unfold rmst; omega
                first
                | (refine ⟨rfl, rfl, ?_, fun a b => ?_⟩
                   · rw [if_neg (by omega)]
                   · rw [if_neg (by omega)])
                | (have hkk : k = 0 ∨ k = 1 ∨ k = 2 := by omega
                   rcases hkk with rfl | rfl | rfl <;> first
                   | (exfalso; omega)
                   | (refine ⟨rfl, rfl, ?_, fun a b => ?_⟩
                      · rw [if_pos (by omega)]; rfl
                      · have e : (Int.toNat 0 = 0) ∧ (Int.toNat 1 = 1) ∧ (Int.toNat 2 = 2) := ⟨rfl, rfl, rfl⟩
                        by_cases z : a = 50
                        · subst z
                          unfold up
                          rcases (by omega : b = 2 ∨ b = 3 ∨ b = 4 ∨ (b ≠ 2 ∧ b ≠ 3 ∧ b ≠ 4)) with rfl | rfl | rfl | z2 <;> (repeat' split) <;> first | rfl | omega
                        · rw [up_n1 z, up_n1 z, up_n1 z, if_neg (by omega)]))
            · refine x_iload_n dX5_set_87 rfl ?_
              refine x_goto 95 dX5_set_88 (by decide) ?_
              refine x_putI dX5_set_95 pf_RX5_59 rfl rfl ?_
              refine x_aload_n dX5_set_98 rfl ?_
              refine x_iload_n dX5_set_99 rfl ?_
              refine x_iconst dX5_set_100 ?_
              refine x_icmp_ne 108 dX5_set_101 (by decide) hk (by unfold inr; omega) (fun h_101 => ?_) (fun h_101 => ?_)
              · refine x_aload_n dX5_set_108 rfl ?_
                refine x_getI dX5_set_109 gf_RX5_63 rfl rfl ?_
                refine x_putI dX5_set_112 pf_RX5_63 rfl rfl ?_
                refine x_iload_n dX5_set_115 rfl ?_
                refine hret _ _ _ _ _ _ dX5_set_116 rfl ?_
                have hr : (k = 0 → rmst k = 99) ∧ (k ≠ 0 → rmst k = 50) := by unfold rmst; omega
                first
                | (refine ⟨rfl, rfl, ?_, fun a b => ?_⟩
                   · rw [if_neg (by omega)]
                   · rw [if_neg (by omega)])
                | (have hkk : k = 0 ∨ k = 1 ∨ k = 2 := by omega
                   rcases hkk with rfl | rfl | rfl <;> first
                   | (exfalso; omega)
                   | (refine ⟨rfl, rfl, ?_, fun a b => ?_⟩
                      · rw [if_pos (by omega)]; rfl
                      · have e : (Int.toNat 0 = 0) ∧ (Int.toNat 1 = 1) ∧ (Int.toNat 2 = 2) := ⟨rfl, rfl, rfl⟩
                        by_cases z : a = 50
                        · subst z
                          unfold up
                          rcases (by omega : b = 2 ∨ b = 3 ∨ b = 4 ∨ (b ≠ 2 ∧ b ≠ 3 ∧ b ≠ 4)) with rfl | rfl | rfl | z2 <;> (repeat' split) <;> first | rfl | omega
                        · rw [up_n1 z, up_n1 z, up_n1 z, if_neg (by omega)]))
              · refine x_iload_n dX5_set_104 rfl ?_
                refine x_goto 112 dX5_set_105 (by decide) ?_
                refine x_putI dX5_set_112 pf_RX5_63 rfl rfl ?_
                refine x_iload_n dX5_set_115 rfl ?_
                refine hret _ _ _ _ _ _ dX5_set_116 rfl ?_
                have hr : (k = 0 → rmst k = 99) ∧ (k ≠ 0 → rmst k = 50) := by unfold rmst; omega
                first
                | (refine ⟨rfl, rfl, ?_, fun a b => ?_⟩
                   · rw [if_neg (by omega)]
                   · rw [if_neg (by omega)])
                | (have hkk : k = 0 ∨ k = 1 ∨ k = 2 := by omega
                   rcases hkk with rfl | rfl | rfl <;> first
                   | (exfalso; omega)
                   | (refine ⟨rfl, rfl, ?_, fun a b => ?_⟩
                      · rw [if_pos (by omega)]; rfl
                      · have e : (Int.toNat 0 = 0) ∧ (Int.toNat 1 = 1) ∧ (Int.toNat 2 = 2) := ⟨rfl, rfl, rfl⟩
                        by_cases z : a = 50
                        · subst z
                          unfold up
                          rcases (by omega : b = 2 ∨ b = 3 ∨ b = 4 ∨ (b ≠ 2 ∧ b ≠ 3 ∧ b ≠ 4)) with rfl | rfl | rfl | z2 <;> (repeat' split) <;> first | rfl | omega
                        · rw [up_n1 z, up_n1 z, up_n1 z, if_neg (by omega)]))
      · replace h_31 := b0 h_31
        refine x_bipush dX5_set_34 (by decide) ?_
        refine hret _ _ _ _ _ _ dX5_set_36 rfl ?_
        have hr : (k = 0 → rmst k = 99) ∧ (k ≠ 0 → rmst k = 50) := by unfold rmst; omega
        first
        | (refine ⟨rfl, rfl, ?_, fun a b => ?_⟩
           · rw [if_neg (by omega)]
           · rw [if_neg (by omega)])
        | (have hkk : k = 0 ∨ k = 1 ∨ k = 2 := by omega
           rcases hkk with rfl | rfl | rfl <;> first
           | (exfalso; omega)
           | (refine ⟨rfl, rfl, ?_, fun a b => ?_⟩
              · rw [if_pos (by omega)]; rfl
              · have e : (Int.toNat 0 = 0) ∧ (Int.toNat 1 = 1) ∧ (Int.toNat 2 = 2) := ⟨rfl, rfl, rfl⟩
                by_cases z : a = 50
                · subst z
                  unfold up
                  rcases (by omega : b = 2 ∨ b = 3 ∨ b = 4 ∨ (b ≠ 2 ∧ b ≠ 3 ∧ b ≠ 4)) with rfl | rfl | rfl | z2 <;> (repeat' split) <;> first | rfl | omega
                · rw [up_n1 z, up_n1 z, up_n1 z, if_neg (by omega)]))
    · refine x_ldc2 dX5_set_19 ct_RX5_104 ?_
      refine x_goto 28 dX5_set_22 (by decide) ?_
      refine xf_SI3 dX5_set_28 ml_RX5_86 vw_X5_in st_X5_in (sp_in (by unfold inl; unfold inr at hv; omega) (by unfold inl; omega) (by unfold inl; omega)) ⟨Nat.le_of_ble_eq_true rfl, Nat.le_of_ble_eq_true rfl, Nat.le_of_ble_eq_true rfl, Nat.le_of_ble_eq_true rfl, Nat.le_of_ble_eq_true rfl⟩ ?_
      refine x_if_ne 37 dX5_set_31 (by decide) (by unfold inr; split <;> omega) (fun h_31 => ?_) (fun h_31 => ?_)
      · replace h_31 := b1 h_31
        refine x_iload_n dX5_set_37 rfl ?_
        refine x_if_ne 48 dX5_set_38 (by decide) hk (fun h_38 => ?_) (fun h_38 => ?_)
        · refine x_iload_n dX5_set_48 rfl ?_
          refine x_iconst dX5_set_49 ?_
          refine x_icmp_ne 60 dX5_set_50 (by decide) hk (by unfold inr; omega) (fun h_50 => ?_) (fun h_50 => ?_)
          · refine x_aload_n dX5_set_60 rfl ?_
            refine x_getI dX5_set_61 gf_RX5_63 rfl rfl ?_
            refine x_ist3 dX5_set_64 ?_
            refine x_aload_n dX5_set_65 rfl ?_
            refine x_iload_n dX5_set_66 rfl ?_
            refine x_if_ne 74 dX5_set_67 (by decide) hk (fun h_67 => ?_) (fun h_67 => ?_)
            · refine x_aload_n dX5_set_74 rfl ?_
              refine x_getI dX5_set_75 gf_RX5_66 rfl rfl ?_
              refine x_putI dX5_set_78 pf_RX5_66 rfl rfl ?_
              refine x_aload_n dX5_set_81 rfl ?_
              refine x_iload_n dX5_set_82 rfl ?_
              refine x_iconst dX5_set_83 ?_
              refine x_icmp_ne 91 dX5_set_84 (by decide) hk (by unfold inr; omega) (fun h_84 => ?_) (fun h_84 => ?_)
              · refine x_aload_n dX5_set_91 rfl ?_
                refine x_getI dX5_set_92 gf_RX5_59 rfl rfl ?_
                refine x_putI dX5_set_95 pf_RX5_59 rfl rfl ?_
                refine x_aload_n dX5_set_98 rfl ?_
                refine x_iload_n dX5_set_99 rfl ?_
                refine x_iconst dX5_set_100 ?_
                refine x_icmp_ne 108 dX5_set_101 (by decide) hk (by unfold inr; omega) (fun h_101 => ?_) (fun h_101 => ?_)
                · refine x_aload_n dX5_set_108 rfl ?_
                  refine x_getI dX5_set_109 gf_RX5_63 rfl rfl ?_
                  refine x_putI dX5_set_112 pf_RX5_63 rfl rfl ?_
                  refine x_iload_n dX5_set_115 rfl ?_
                  refine hret _ _ _ _ _ _ dX5_set_116 rfl ?_
                  have hr : (k = 0 → rmst k = 99) ∧ (k ≠ 0 → rmst k = 50) := by unfold rmst; omega
                  first
                  | (refine ⟨rfl, rfl, ?_, fun a b => ?_⟩
                     · rw [if_neg (by omega)]
                     · rw [if_neg (by omega)])
                  | (have hkk : k = 0 ∨ k = 1 ∨ k = 2 := by omega
                     rcases hkk with rfl | rfl | rfl <;> first
                     | (exfalso; omega)
                     | (refine ⟨rfl, rfl, ?_, fun a b => ?_⟩
                        · rw [if_pos (by omega)]; rfl
                        · have e : (Int.toNat 0 = 0) ∧ (Int.toNat 1 = 1) ∧ (Int.toNat 2 = 2) := ⟨rfl, rfl, rfl⟩
                          by_cases z : a = 50
                          · subst z
                            unfold up
                            rcases (by omega : b = 2 ∨ b = 3 ∨ b = 4 ∨ (b ≠ 2 ∧ b ≠ 3 ∧ b ≠ 4)) with rfl | rfl | rfl | z2 <;> (repeat' split) <;> first | rfl | omega
                          · rw [up_n1 z, up_n1 z, up_n1 z, if_neg (by omega)]))
                · refine x_iload_n dX5_set_104 rfl ?_
                  refine x_goto 112 dX5_set_105 (by decide) ?_
                  refine x_putI dX5_set_112 pf_RX5_63 rfl rfl ?_
                  refine x_iload_n dX5_set_115 rfl ?_
                  refine hret _ _ _ _ _ _ dX5_set_116 rfl ?_
                  have hr : (k = 0 → rmst k = 99) ∧ (k ≠ 0 → rmst k = 50) := by unfold rmst; omega
                  first
                  | (refine ⟨rfl, rfl, ?_, fun a b => ?_⟩
                     · rw [if_neg (by omega)]
                     · rw [if_neg (by omega)])
                  | (have hkk : k = 0 ∨ k = 1 ∨ k = 2 := by omega
                     rcases hkk with rfl | rfl | rfl <;> first
                     | (exfalso; omega)
                     | (refine ⟨rfl, rfl, ?_, fun a b => ?_⟩
                        · rw [if_pos (by omega)]; rfl
                        · have e : (Int.toNat 0 = 0) ∧ (Int.toNat 1 = 1) ∧ (Int.toNat 2 = 2) := ⟨rfl, rfl, rfl⟩
                          by_cases z : a = 50
                          · subst z
                            unfold up
                            rcases (by omega : b = 2 ∨ b = 3 ∨ b = 4 ∨ (b ≠ 2 ∧ b ≠ 3 ∧ b ≠ 4)) with rfl | rfl | rfl | z2 <;> (repeat' split) <;> first | rfl | omega
                          · rw [up_n1 z, up_n1 z, up_n1 z, if_neg (by omega)]))
              · refine x_iload_n dX5_set_87 rfl ?_
                refine x_goto 95 dX5_set_88 (by decide) ?_
                refine x_putI dX5_set_95 pf_RX5_59 rfl rfl ?_
                refine x_aload_n dX5_set_98 rfl ?_
                refine x_iload_n dX5_set_99 rfl ?_
                refine x_iconst dX5_set_100 ?_
                refine x_icmp_ne 108 dX5_set_101 (by decide) hk (by unfold inr; omega) (fun h_101 => ?_) (fun h_101 => ?_)
                · refine x_aload_n dX5_set_108 rfl ?_
                  refine x_getI dX5_set_109 gf_RX5_63 rfl rfl ?_
                  refine x_putI dX5_set_112 pf_RX5_63 rfl rfl ?_
                  refine x_iload_n dX5_set_115 rfl ?_
                  refine hret _ _ _ _ _ _ dX5_set_116 rfl ?_
                  have hr : (k = 0 → rmst k = 99) ∧ (k ≠ 0 → rmst k = 50) := by unfold rmst; omega
                  first
                  | (refine ⟨rfl, rfl, ?_, fun a b => ?_⟩
                     · rw [if_neg (by omega)]
                     · rw [if_neg (by omega)])
                  | (have hkk : k = 0 ∨ k = 1 ∨ k = 2 := by omega
                     rcases hkk with rfl | rfl | rfl <;> first
                     | (exfalso; omega)
                     | (refine ⟨rfl, rfl, ?_, fun a b => ?_⟩
                        · rw [if_pos (by omega)]; rfl
                        · have e : (Int.toNat 0 = 0) ∧ (Int.toNat 1 = 1) ∧ (Int.toNat 2 = 2) := ⟨rfl, rfl, rfl⟩
                          by_cases z : a = 50
                          · subst z
                            unfold up
                            rcases (by omega : b = 2 ∨ b = 3 ∨ b = 4 ∨ (b ≠ 2 ∧ b ≠ 3 ∧ b ≠ 4)) with rfl | rfl | rfl | z2 <;> (repeat' split) <;> first | rfl | omega
                          · rw [up_n1 z, up_n1 z, up_n1 z, if_neg (by omega)]))
                · refine x_iload_n dX5_set_104 rfl ?_
                  refine x_goto 112 dX5_set_105 (by decide) ?_
                  refine x_putI dX5_set_112 pf_RX5_63 rfl rfl ?_
                  refine x_iload_n dX5_set_115 rfl ?_
                  refine hret _ _ _ _ _ _ dX5_set_116 rfl ?_
                  have hr : (k = 0 → rmst k = 99) ∧ (k ≠ 0 → rmst k = 50) := by unfold rmst; omega
                  first
                  | (refine ⟨rfl, rfl, ?_, fun a b => ?_⟩
                     · rw [if_neg (by omega)]
                     · rw [if_neg (by omega)])
                  | (have hkk : k = 0 ∨ k = 1 ∨ k = 2 := by omega
                     rcases hkk with rfl | rfl | rfl <;> first
                     | (exfalso; omega)
                     | (refine ⟨rfl, rfl, ?_, fun a b => ?_⟩
                        · rw [if_pos (by omega)]; rfl
                        · have e : (Int.toNat 0 = 0) ∧ (Int.toNat 1 = 1) ∧ (Int.toNat 2 = 2) := ⟨rfl, rfl, rfl⟩
                          by_cases z : a = 50
                          · subst z
                            unfold up
                            rcases (by omega : b = 2 ∨ b = 3 ∨ b = 4 ∨ (b ≠ 2 ∧ b ≠ 3 ∧ b ≠ 4)) with rfl | rfl | rfl | z2 <;> (repeat' split) <;> first | rfl | omega
                          · rw [up_n1 z, up_n1 z, up_n1 z, if_neg (by omega)]))
            · refine x_iload_n dX5_set_70 rfl ?_
              refine x_goto 78 dX5_set_71 (by decide) ?_
              refine x_putI dX5_set_78 pf_RX5_66 rfl rfl ?_
              refine x_aload_n dX5_set_81 rfl ?_
              refine x_iload_n dX5_set_82 rfl ?_
              refine x_iconst dX5_set_83 ?_
              refine x_icmp_ne 91 dX5_set_84 (by decide) hk (by unfold inr; omega) (fun h_84 => ?_) (fun h_84 => ?_)
              · refine x_aload_n dX5_set_91 rfl ?_
                refine x_getI dX5_set_92 gf_RX5_59 rfl rfl ?_
                refine x_putI dX5_set_95 pf_RX5_59 rfl rfl ?_
                refine x_aload_n dX5_set_98 rfl ?_
                refine x_iload_n dX5_set_99 rfl ?_
                refine x_iconst dX5_set_100 ?_
                refine x_icmp_ne 108 dX5_set_101 (by decide) hk (by unfold inr; omega) (fun h_101 => ?_) (fun h_101 => ?_)
                · refine x_aload_n dX5_set_108 rfl ?_
                  refine x_getI dX5_set_109 gf_RX5_63 rfl rfl ?_
                  refine x_putI dX5_set_112 pf_RX5_63 rfl rfl ?_
                  refine x_iload_n dX5_set_115 rfl ?_
                  refine hret _ _ _ _ _ _ dX5_set_116 rfl ?_
                  have hr : (k = 0 → rmst k = 99) ∧ (k ≠ 0 → rmst k = 50) := by unfold rmst; omega
                  first
                  | (refine ⟨rfl, rfl, ?_, fun a b => ?_⟩
                     · rw [if_neg (by omega)]
                     · rw [if_neg (by omega)])
                  | (have hkk : k = 0 ∨ k = 1 ∨ k = 2 := by omega
                     rcases hkk with rfl | rfl | rfl <;> first
                     | (exfalso; omega)
                     | (refine ⟨rfl, rfl, ?_, fun a b => ?_⟩
                        · rw [if_pos (by omega)]; rfl
                        · have e : (Int.toNat 0 = 0) ∧ (Int.toNat 1 = 1) ∧ (Int.toNat 2 = 2) := ⟨rfl, rfl, rfl⟩
                          by_cases z : a = 50
                          · subst z
                            unfold up
                            rcases (by omega : b = 2 ∨ b = 3 ∨ b = 4 ∨ (b ≠ 2 ∧ b ≠ 3 ∧ b ≠ 4)) with rfl | rfl | rfl | z2 <;> (repeat' split) <;> first | rfl | omega
                          · rw [up_n1 z, up_n1 z, up_n1 z, if_neg (by omega)]))
                · refine x_iload_n dX5_set_104 rfl ?_
                  refine x_goto 112 dX5_set_105 (by decide) ?_
                  refine x_putI dX5_set_112 pf_RX5_63 rfl rfl ?_
                  refine x_iload_n dX5_set_115 rfl ?_
                  refine hret _ _ _ _ _ _ dX5_set_116 rfl ?_
                  have hr : (k = 0 → rmst k = 99) ∧ (k ≠ 0 → rmst k = 50) := by unfold rmst; omega
                  first
                  | (refine ⟨rfl, rfl, ?_, fun a b => ?_⟩
                     · rw [if_neg (by omega)]
                     · rw [if_neg (by omega)])
                  | (have hkk : k = 0 ∨ k = 1 ∨ k = 2 := by omega
                     rcases hkk with rfl | rfl | rfl <;> first
                     | (exfalso; omega)
                     | (refine ⟨rfl, rfl, ?_, fun a b => ?_⟩
                        · rw [if_pos (by omega)]; rfl
                        · have e : (Int.toNat 0 = 0) ∧ (Int.toNat 1 = 1) ∧ (Int.toNat 2 = 2) := ⟨rfl, rfl, rfl⟩
                          by_cases z : a = 50
                          · subst z
                            unfold up
                            rcases (by omega : b = 2 ∨ b = 3 ∨ b = 4 ∨ (b ≠ 2 ∧ b ≠ 3 ∧ b ≠ 4)) with rfl | rfl | rfl | z2 <;> (repeat' split) <;> first | rfl | omega
                          · rw [up_n1 z, up_n1 z, up_n1 z, if_neg (by omega)]))
              · refine x_iload_n dX5_set_87 rfl ?_
                refine x_goto 95 dX5_set_88 (by decide) ?_
                refine x_putI dX5_set_95 pf_RX5_59 rfl rfl ?_
                refine x_aload_n dX5_set_98 rfl ?_
                refine x_iload_n dX5_set_99 rfl ?_
                refine x_iconst dX5_set_100 ?_
                refine x_icmp_ne 108 dX5_set_101 (by decide) hk (by unfold inr; omega) (fun h_101 => ?_) (fun h_101 => ?_)
                · refine x_aload_n dX5_set_108 rfl ?_
                  refine x_getI dX5_set_109 gf_RX5_63 rfl rfl ?_
                  refine x_putI dX5_set_112 pf_RX5_63 rfl rfl ?_
                  refine x_iload_n dX5_set_115 rfl ?_
                  refine hret _ _ _ _ _ _ dX5_set_116 rfl ?_
                  have hr : (k = 0 → rmst k = 99) ∧ (k ≠ 0 → rmst k = 50) := by unfold rmst; omega
                  first
                  | (refine ⟨rfl, rfl, ?_, fun a b => ?_⟩
                     · rw [if_neg (by omega)]
                     · rw [if_neg (by omega)])
                  | (have hkk : k = 0 ∨ k = 1 ∨ k = 2 := by omega
                     rcases hkk with rfl | rfl | rfl <;> first
                     | (exfalso; omega)
                     | (refine ⟨rfl, rfl, ?_, fun a b => ?_⟩
                        · rw [if_pos (by omega)]; rfl
                        · have e : (Int.toNat 0 = 0) ∧ (Int.toNat 1 = 1) ∧ (Int.toNat 2 = 2) := ⟨rfl, rfl, rfl⟩
                          by_cases z : a = 50
                          · subst z
                            unfold up
                            rcases (by omega : b = 2 ∨ b = 3 ∨ b = 4 ∨ (b ≠ 2 ∧ b ≠ 3 ∧ b ≠ 4)) with rfl | rfl | rfl | z2 <;> (repeat' split) <;> first | rfl | omega
                          · rw [up_n1 z, up_n1 z, up_n1 z, if_neg (by omega)]))
                · refine x_iload_n dX5_set_104 rfl ?_
                  refine x_goto 112 dX5_set_105 (by decide) ?_
                  refine x_putI dX5_set_112 pf_RX5_63 rfl rfl ?_
                  refine x_iload_n dX5_set_115 rfl ?_
                  refine hret _ _ _ _ _ _ dX5_set_116 rfl ?_
                  have hr : (k = 0 → rmst k = 99) ∧ (k ≠ 0 → rmst k = 50) := by unfold rmst; omega
                  first
                  | (refine ⟨rfl, rfl, ?_, fun a b => ?_⟩
                     · rw [if_neg (by omega)]
                     · rw [if_neg (by omega)])
                  | (have hkk : k = 0 ∨ k = 1 ∨ k = 2 := by omega
                     rcases hkk with rfl | rfl | rfl <;> first
                     | (exfalso; omega)
                     | (refine ⟨rfl, rfl, ?_, fun a b => ?_⟩
                        · rw [if_pos (by omega)]; rfl
                        · have e : (Int.toNat 0 = 0) ∧ (Int.toNat 1 = 1) ∧ (Int.toNat 2 = 2) := ⟨rfl, rfl, rfl⟩
                          by_cases z : a = 50
                          · subst z
                            unfold up
                            rcases (by omega : b = 2 ∨ b = 3 ∨ b = 4 ∨ (b ≠ 2 ∧ b ≠ 3 ∧ b ≠ 4)) with rfl | rfl | rfl | z2 <;> (repeat' split) <;> first | rfl | omega
                          · rw [up_n1 z, up_n1 z, up_n1 z, if_neg (by omega)]))
          · refine x_aload_n dX5_set_53 rfl ?_
            refine x_getI dX5_set_54 gf_RX5_59 rfl rfl ?_
            refine x_goto 64 dX5_set_57 (by decide) ?_
            refine x_ist3 dX5_set_64 ?_
            refine x_aload_n dX5_set_65 rfl ?_
            refine x_iload_n dX5_set_66 rfl ?_
            refine x_if_ne 74 dX5_set_67 (by decide) hk (fun h_67 => ?_) (fun h_67 => ?_)
            · refine x_aload_n dX5_set_74 rfl ?_
              refine x_getI dX5_set_75 gf_RX5_66 rfl rfl ?_
              refine x_putI dX5_set_78 pf_RX5_66 rfl rfl ?_
              refine x_aload_n dX5_set_81 rfl ?_
              refine x_iload_n dX5_set_82 rfl ?_
              refine x_iconst dX5_set_83 ?_
              refine x_icmp_ne 91 dX5_set_84 (by decide) hk (by unfold inr; omega) (fun h_84 => ?_) (fun h_84 => ?_)
              · refine x_aload_n dX5_set_91 rfl ?_
                refine x_getI dX5_set_92 gf_RX5_59 rfl rfl ?_
                refine x_putI dX5_set_95 pf_RX5_59 rfl rfl ?_
                refine x_aload_n dX5_set_98 rfl ?_
                refine x_iload_n dX5_set_99 rfl ?_
                refine x_iconst dX5_set_100 ?_
                refine x_icmp_ne 108 dX5_set_101 (by decide) hk (by unfold inr; omega) (fun h_101 => ?_) (fun h_101 => ?_)
                · refine x_aload_n dX5_set_108 rfl ?_
                  refine x_getI dX5_set_109 gf_RX5_63 rfl rfl ?_
                  refine x_putI dX5_set_112 pf_RX5_63 rfl rfl ?_
                  refine x_iload_n dX5_set_115 rfl ?_
                  refine hret _ _ _ _ _ _ dX5_set_116 rfl ?_
                  have hr : (k = 0 → rmst k = 99) ∧ (k ≠ 0 → rmst k = 50) := by unfold rmst; omega
                  first
                  | (refine ⟨rfl, rfl, ?_, fun a b => ?_⟩
                     · rw [if_neg (by omega)]
                     · rw [if_neg (by omega)])
                  | (have hkk : k = 0 ∨ k = 1 ∨ k = 2 := by omega
                     rcases hkk with rfl | rfl | rfl <;> first
                     | (exfalso; omega)
                     | (refine ⟨rfl, rfl, ?_, fun a b => ?_⟩
                        · rw [if_pos (by omega)]; rfl
                        · have e : (Int.toNat 0 = 0) ∧ (Int.toNat 1 = 1) ∧ (Int.toNat 2 = 2) := ⟨rfl, rfl, rfl⟩
                          by_cases z : a = 50
                          · subst z
                            unfold up
                            rcases (by omega : b = 2 ∨ b = 3 ∨ b = 4 ∨ (b ≠ 2 ∧ b ≠ 3 ∧ b ≠ 4)) with rfl | rfl | rfl | z2 <;> (repeat' split) <;> first | rfl | omega
                          · rw [up_n1 z, up_n1 z, up_n1 z, if_neg (by omega)]))
                · refine x_iload_n dX5_set_104 rfl ?_
                  refine x_goto 112 dX5_set_105 (by decide) ?_
                  refine x_putI dX5_set_112 pf_RX5_63 rfl rfl ?_
                  refine x_iload_n dX5_set_115 rfl ?_
                  refine hret _ _ _ _ _ _ dX5_set_116 rfl ?_
                  have hr : (k = 0 → rmst k = 99) ∧ (k ≠ 0 → rmst k = 50) := by unfold rmst; omega
                  first
                  | (refine ⟨rfl, rfl, ?_, fun a b => ?_⟩
                     · rw [if_neg (by omega)]
                     · rw [if_neg (by omega)])
                  | (have hkk : k = 0 ∨ k = 1 ∨ k = 2 := by omega
                     rcases hkk with rfl | rfl | rfl <;> first
                     | (exfalso; omega)
                     | (refine ⟨rfl, rfl, ?_, fun a b => ?_⟩
                        · rw [if_pos (by omega)]; rfl
                        · have e : (Int.toNat 0 = 0) ∧ (Int.toNat 1 = 1) ∧ (Int.toNat 2 = 2) := ⟨rfl, rfl, rfl⟩
                          by_cases z : a = 50
                          · subst z
                            unfold up
                            rcases (by omega : b = 2 ∨ b = 3 ∨ b = 4 ∨ (b ≠ 2 ∧ b ≠ 3 ∧ b ≠ 4)) with rfl | rfl | rfl | z2 <;> (repeat' split) <;> first | rfl | omega
                          · rw [up_n1 z, up_n1 z, up_n1 z, if_neg (by omega)]))
              · refine x_iload_n dX5_set_87 rfl ?_
                refine x_goto 95 dX5_set_88 (by decide) ?_
                refine x_putI dX5_set_95 pf_RX5_59 rfl rfl ?_
                refine x_aload_n dX5_set_98 rfl ?_
                refine x_iload_n dX5_set_99 rfl ?_
                refine x_iconst dX5_set_100 ?_
                refine x_icmp_ne 108 dX5_set_101 (by decide) hk (by unfold inr; omega) (fun h_101 => ?_) (fun h_101 => ?_)
                · refine x_aload_n dX5_set_108 rfl ?_
                  refine x_getI dX5_set_109 gf_RX5_63 rfl rfl ?_
                  refine x_putI dX5_set_112 pf_RX5_63 rfl rfl ?_
                  refine x_iload_n dX5_set_115 rfl ?_
                  refine hret _ _ _ _ _ _ dX5_set_116 rfl ?_
                  have hr : (k = 0 → rmst k = 99) ∧ (k ≠ 0 → rmst k = 50) := by unfold rmst; omega
                  first
                  | (refine ⟨rfl, rfl, ?_, fun a b => ?_⟩
                     · rw [if_neg (by omega)]
                     · rw [if_neg (by omega)])
                  | (have hkk : k = 0 ∨ k = 1 ∨ k = 2 := by omega
                     rcases hkk with rfl | rfl | rfl <;> first
                     | (exfalso; omega)
                     | (refine ⟨rfl, rfl, ?_, fun a b => ?_⟩
                        · rw [if_pos (by omega)]; rfl
                        · have e : (Int.toNat 0 = 0) ∧ (Int.toNat 1 = 1) ∧ (Int.toNat 2 = 2) := ⟨rfl, rfl, rfl⟩
                          by_cases z : a = 50
                          · subst z
                            unfold up
                            rcases (by omega : b = 2 ∨ b = 3 ∨ b = 4 ∨ (b ≠ 2 ∧ b ≠ 3 ∧ b ≠ 4)) with rfl | rfl | rfl | z2 <;> (repeat' split) <;> first | rfl | omega
                          · rw [up_n1 z, up_n1 z, up_n1 z, if_neg (by omega)]))
                · refine x_iload_n dX5_set_104 rfl ?_
                  refine x_goto 112 dX5_set_105 (by decide) ?_
                  refine x_putI dX5_set_112 pf_RX5_63 rfl rfl ?_
                  refine x_iload_n dX5_set_115 rfl ?_
                  refine hret _ _ _ _ _ _ dX5_set_116 rfl ?_
                  have hr : (k = 0 → rmst k = 99) ∧ (k ≠ 0 → rmst k = 50) := by unfold rmst; omega
                  first
                  | (refine ⟨rfl, rfl, ?_, fun a b => ?_⟩
                     · rw [if_neg (by omega)]
                     · rw [if_neg (by omega)])
                  | (have hkk : k = 0 ∨ k = 1 ∨ k = 2 := by omega
                     rcases hkk with rfl | rfl | rfl <;> first
                     | (exfalso; omega)
                     | (refine ⟨rfl, rfl, ?_, fun a b => ?_⟩
                        · rw [if_pos (by omega)]; rfl
                        · have e : (Int.toNat 0 = 0) ∧ (Int.toNat 1 = 1) ∧ (Int.toNat 2 = 2) := ⟨rfl, rfl, rfl⟩
                          by_cases z : a = 50
                          · subst z
                            unfold up
                            rcases (by omega : b = 2 ∨ b = 3 ∨ b = 4 ∨ (b ≠ 2 ∧ b ≠ 3 ∧ b ≠ 4)) with rfl | rfl | rfl | z2 <;> (repeat' split) <;> first | rfl | omega
                          · rw [up_n1 z, up_n1 z, up_n1 z, if_neg (by omega)]))
            · refine x_iload_n dX5_set_70 rfl ?_
              refine x_goto 78 dX5_set_71 (by decide) ?_
              refine x_putI dX5_set_78 pf_RX5_66 rfl rfl ?_
              refine x_aload_n dX5_set_81 rfl ?_
              refine x_iload_n dX5_set_82 rfl ?_
              refine x_iconst dX5_set_83 ?_
              refine x_icmp_ne 91 dX5_set_84 (by decide) hk (by unfold inr; omega) (fun h_84 => ?_) (fun h_84 => ?_)
              · refine x_aload_n dX5_set_91 rfl ?_
                refine x_getI dX5_set_92 gf_RX5_59 rfl rfl ?_
                refine x_putI dX5_set_95 pf_RX5_59 rfl rfl ?_
                refine x_aload_n dX5_set_98 rfl ?_
                refine x_iload_n dX5_set_99 rfl ?_
                refine x_iconst dX5_set_100 ?_
                refine x_icmp_ne 108 dX5_set_101 (by decide) hk (by unfold inr; omega) (fun h_101 => ?_) (fun h_101 => ?_)
                · refine x_aload_n dX5_set_108 rfl ?_
                  refine x_getI dX5_set_109 gf_RX5_63 rfl rfl ?_
                  refine x_putI dX5_set_112 pf_RX5_63 rfl rfl ?_
                  refine x_iload_n dX5_set_115 rfl ?_
                  refine hret _ _ _ _ _ _ dX5_set_116 rfl ?_
                  have hr : (k = 0 → rmst k = 99) ∧ (k ≠ 0 → rmst k = 50) := by unfold rmst; omega
                  first
                  | (refine ⟨rfl, rfl, ?_, fun a b => ?_⟩
                     · rw [if_neg (by omega)]
                     · rw [if_neg (by omega)])
                  | (have hkk : k = 0 ∨ k = 1 ∨ k = 2 := by omega
                     rcases hkk with rfl | rfl | rfl <;> first
                     | (exfalso; omega)
                     | (refine ⟨rfl, rfl, ?_, fun a b => ?_⟩
                        · rw [if_pos (by omega)]; rfl
                        · have e : (Int.toNat 0 = 0) ∧ (Int.toNat 1 = 1) ∧ (Int.toNat 2 = 2) := ⟨rfl, rfl, rfl⟩
                          by_cases z : a = 50
                          · subst z
                            unfold up
                            rcases (by omega : b = 2 ∨ b = 3 ∨ b = 4 ∨ (b ≠ 2 ∧ b ≠ 3 ∧ b ≠ 4)) with rfl | rfl | rfl | z2 <;> (repeat' split) <;> first | rfl | omega
                          · rw [up_n1 z, up_n1 z, up_n1 z, if_neg (by omega)]))
                · refine x_iload_n dX5_set_104 rfl ?_
                  refine x_goto 112 dX5_set_105 (by decide) ?_
                  refine x_putI dX5_set_112 pf_RX5_63 rfl rfl ?_
                  refine x_iload_n dX5_set_115 rfl ?_
                  refine hret _ _ _ _ _ _ dX5_set_116 rfl ?_
                  have hr : (k = 0 → rmst k = 99) ∧ (k ≠ 0 → rmst k = 50) := by unfold rmst; omega
                  first
                  | (refine ⟨rfl, rfl, ?_, fun a b => ?_⟩
                     · rw [if_neg (by omega)]
                     · rw [if_neg (by omega)])
                  | (have hkk : k = 0 ∨ k = 1 ∨ k = 2 := by omega
                     rcases hkk with rfl | rfl | rfl <;> first
                     | (exfalso; omega)
                     | (refine ⟨rfl, rfl, ?_, fun a b => ?_⟩
                        · rw [if_pos (by omega)]; rfl
                        · have e : (Int.toNat 0 = 0) ∧ (Int.toNat 1 = 1) ∧ (Int.toNat 2 = 2) := ⟨rfl, rfl, rfl⟩
                          by_cases z : a = 50
                          · subst z
                            unfold up
                            rcases (by omega : b = 2 ∨ b = 3 ∨ b = 4 ∨ (b ≠ 2 ∧ b ≠ 3 ∧ b ≠ 4)) with rfl | rfl | rfl | z2 <;> (repeat' split) <;> first | rfl | omega
                          · rw [up_n1 z, up_n1 z, up_n1 z, if_neg (by omega)]))
              · refine x_iload_n dX5_set_87 rfl ?_
                refine x_goto 95 dX5_set_88 (by decide) ?_
                refine x_putI dX5_set_95 pf_RX5_59 rfl rfl ?_
                refine x_aload_n dX5_set_98 rfl ?_
                refine x_iload_n dX5_set_99 rfl ?_
                refine x_iconst dX5_set_100 ?_
                refine x_icmp_ne 108 dX5_set_101 (by decide) hk (by unfold inr; omega) (fun h_101 => ?_) (fun h_101 => ?_)
                · refine x_aload_n dX5_set_108 rfl ?_
                  refine x_getI dX5_set_109 gf_RX5_63 rfl rfl ?_
                  refine x_putI dX5_set_112 pf_RX5_63 rfl rfl ?_
                  refine x_iload_n dX5_set_115 rfl ?_
                  refine hret _ _ _ _ _ _ dX5_set_116 rfl ?_
                  have hr : (k = 0 → rmst k = 99) ∧ (k ≠ 0 → rmst k = 50) := by unfold rmst; omega
                  first
                  | (refine ⟨rfl, rfl, ?_, fun a b => ?_⟩
                     · rw [if_neg (by omega)]
                     · rw [if_neg (by omega)])
                  | (have hkk : k = 0 ∨ k = 1 ∨ k = 2 := by omega
                     rcases hkk with rfl | rfl | rfl <;> first
                     | (exfalso; omega)
                     | (refine ⟨rfl, rfl, ?_, fun a b => ?_⟩
                        · rw [if_pos (by omega)]; rfl
                        · have e : (Int.toNat 0 = 0) ∧ (Int.toNat 1 = 1) ∧ (Int.toNat 2 = 2) := ⟨rfl, rfl, rfl⟩
                          by_cases z : a = 50
                          · subst z
                            unfold up
                            rcases (by omega : b = 2 ∨ b = 3 ∨ b = 4 ∨ (b ≠ 2 ∧ b ≠ 3 ∧ b ≠ 4)) with rfl | rfl | rfl | z2 <;> (repeat' split) <;> first | rfl | omega
                          · rw [up_n1 z, up_n1 z, up_n1 z, if_neg (by omega)]))
                · refine x_iload_n dX5_set_104 rfl ?_
                  refine x_goto 112 dX5_set_105 (by decide) ?_
                  refine x_putI dX5_set_112 pf_RX5_63 rfl rfl ?_
                  refine x_iload_n dX5_set_115 rfl ?_
                  refine hret _ _ _ _ _ _ dX5_set_116 rfl ?_
                  have hr : (k = 0 → rmst k = 99) ∧ (k ≠ 0 → rmst k = 50) := by unfold rmst; omega
                  first
                  | (refine ⟨rfl, rfl, ?_, fun a b => ?_⟩
                     · rw [if_neg (by omega)]
                     · rw [if_neg (by omega)])
                  | (have hkk : k = 0 ∨ k = 1 ∨ k = 2 := by omega
                     rcases hkk with rfl | rfl | rfl <;> first
                     | (exfalso; omega)
                     | (refine ⟨rfl, rfl, ?_, fun a b => ?_⟩
                        · rw [if_pos (by omega)]; rfl
                        · have e : (Int.toNat 0 = 0) ∧ (Int.toNat 1 = 1) ∧ (Int.toNat 2 = 2) := ⟨rfl, rfl, rfl⟩
                          by_cases z : a = 50
                          · subst z
                            unfold up
                            rcases (by omega : b = 2 ∨ b = 3 ∨ b = 4 ∨ (b ≠ 2 ∧ b ≠ 3 ∧ b ≠ 4)) with rfl | rfl | rfl | z2 <;> (repeat' split) <;> first | rfl | omega
                          · rw [up_n1 z, up_n1 z, up_n1 z, if_neg (by omega)]))
        · refine x_aload_n dX5_set_41 rfl ?_
          refine x_getI dX5_set_42 gf_RX5_66 rfl rfl ?_
          refine x_goto 64 dX5_set_45 (by decide) ?_
          refine x_ist3 dX5_set_64 ?_
          refine x_aload_n dX5_set_65 rfl ?_
          refine x_iload_n dX5_set_66 rfl ?_
          refine x_if_ne 74 dX5_set_67 (by decide) hk (fun h_67 => ?_) (fun h_67 => ?_)
          · refine x_aload_n dX5_set_74 rfl ?_
            refine x_getI dX5_set_75 gf_RX5_66 rfl rfl ?_
            refine x_putI dX5_set_78 pf_RX5_66 rfl rfl ?_
            refine x_aload_n dX5_set_81 rfl ?_
            refine x_iload_n dX5_set_82 rfl ?_
            refine x_iconst dX5_set_83 ?_
            refine x_icmp_ne 91 dX5_set_84 (by decide) hk (by unfold inr; omega) (fun h_84 => ?_) (fun h_84 => ?_)
            · refine x_aload_n dX5_set_91 rfl ?_
              refine x_getI dX5_set_92 gf_RX5_59 rfl rfl ?_
              refine x_putI dX5_set_95 pf_RX5_59 rfl rfl ?_
              refine x_aload_n dX5_set_98 rfl ?_
              refine x_iload_n dX5_set_99 rfl ?_
              refine x_iconst dX5_set_100 ?_
              refine x_icmp_ne 108 dX5_set_101 (by decide) hk (by unfold inr; omega) (fun h_101 => ?_) (fun h_101 => ?_)
              · refine x_aload_n dX5_set_108 rfl ?_
                refine x_getI dX5_set_109 gf_RX5_63 rfl rfl ?_
                refine x_putI dX5_set_112 pf_RX5_63 rfl rfl ?_
                refine x_iload_n dX5_set_115 rfl ?_
                refine hret _ _ _ _ _ _ dX5_set_116 rfl ?_
                have hr : (k = 0 → rmst k = 99) ∧ (k ≠ 0 → rmst k = 50) := by unfold rmst; omega
                first
                | (refine ⟨rfl, rfl, ?_, fun a b => ?_⟩
                   · rw [if_neg (by omega)]
                   · rw [if_neg (by omega)])
                | (have hkk : k = 0 ∨ k = 1 ∨ k = 2 := by omega
                   rcases hkk with rfl | rfl | rfl <;> first
                   | (exfalso; omega)
                   | (refine ⟨rfl, rfl, ?_, fun a b => ?_⟩
                      · rw [if_pos (by omega)]; rfl
                      · have e : (Int.toNat 0 = 0) ∧ (Int.toNat 1 = 1) ∧ (Int.toNat 2 = 2) := ⟨rfl, rfl, rfl⟩
                        by_cases z : a = 50
                        · subst z
                          unfold up
                          rcases (by omega : b = 2 ∨ b = 3 ∨ b = 4 ∨ (b ≠ 2 ∧ b ≠ 3 ∧ b ≠ 4)) with rfl | rfl | rfl | z2 <;> (repeat' split) <;> first | rfl | omega
                        · rw [up_n1 z, up_n1 z, up_n1 z, if_neg (by omega)]))
              · refine x_iload_n dX5_set_104 rfl ?_
                refine x_goto 112 dX5_set_105 (by decide) ?_
                refine x_putI dX5_set_112 pf_RX5_63 rfl rfl ?_
                refine x_iload_n dX5_set_115 rfl ?_
                refine hret _ _ _ _ _ _ dX5_set_116 rfl ?_
                have hr : (k = 0 → rmst k = 99) ∧ (k ≠ 0 → rmst k = 50) := by unfold rmst; omega
                first
                | (refine ⟨rfl, rfl, ?_, fun a b => ?_⟩
                   · rw [if_neg (by omega)]
                   · rw [if_neg (by omega)])
                | (have hkk : k = 0 ∨ k = 1 ∨ k = 2 := by omega
                   rcases hkk with rfl | rfl | rfl <;> first
                   | (exfalso; omega)
                   | (refine ⟨rfl, rfl, ?_, fun a b => ?_⟩
                      · rw [if_pos (by omega)]; rfl
                      · have e : (Int.toNat 0 = 0) ∧ (Int.toNat 1 = 1) ∧ (Int.toNat 2 = 2) := ⟨rfl, rfl, rfl⟩
                        by_cases z : a = 50
                        · subst z
                          unfold up
                          rcases (by omega : b = 2 ∨ b = 3 ∨ b = 4 ∨ (b ≠ 2 ∧ b ≠ 3 ∧ b ≠ 4)) with rfl | rfl | rfl | z2 <;> (repeat' split) <;> first | rfl | omega
                        · rw [up_n1 z, up_n1 z, up_n1 z, if_neg (by omega)]))
            · refine x_iload_n dX5_set_87 rfl ?_
              refine x_goto 95 dX5_set_88 (by decide) ?_
              refine x_putI dX5_set_95 pf_RX5_59 rfl rfl ?_
              refine x_aload_n dX5_set_98 rfl ?_
              refine x_iload_n dX5_set_99 rfl ?_
              refine x_iconst dX5_set_100 ?_
              refine x_icmp_ne 108 dX5_set_101 (by decide) hk (by unfold inr; omega) (fun h_101 => ?_) (fun h_101 => ?_)
              · refine x_aload_n dX5_set_108 rfl ?_
                refine x_getI dX5_set_109 gf_RX5_63 rfl rfl ?_
                refine x_putI dX5_set_112 pf_RX5_63 rfl rfl ?_
                refine x_iload_n dX5_set_115 rfl ?_
                refine hret _ _ _ _ _ _ dX5_set_116 rfl ?_
                have hr : (k = 0 → rmst k = 99) ∧ (k ≠ 0 → rmst k = 50) := by unfold rmst; omega
                first
                | (refine ⟨rfl, rfl, ?_, fun a b => ?_⟩
                   · rw [if_neg (by omega)]
                   · rw [if_neg (by omega)])
                | (have hkk : k = 0 ∨ k = 1 ∨ k = 2 := by omega
                   rcases hkk with rfl | rfl | rfl <;> first
                   | (exfalso; omega)
                   | (refine ⟨rfl, rfl, ?_, fun a b => ?_⟩
                      · rw [if_pos (by omega)]; rfl
                      · have e : (Int.toNat 0 = 0) ∧ (Int.toNat 1 = 1) ∧ (Int.toNat 2 = 2) := ⟨rfl, rfl, rfl⟩
                        by_cases z : a = 50
                        · subst z
                          unfold up
                          rcases (by omega : b = 2 ∨ b = 3 ∨ b = 4 ∨ (b ≠ 2 ∧ b ≠ 3 ∧ b ≠ 4)) with rfl | rfl | rfl | z2 <;> (repeat' split) <;> first | rfl | omega
                        · rw [up_n1 z, up_n1 z, up_n1 z, if_neg (by omega)]))
              · refine x_iload_n dX5_set_104 rfl ?_
                refine x_goto 112 dX5_set_105 (by decide) ?_
                refine x_putI dX5_set_112 pf_RX5_63 rfl rfl ?_
                refine x_iload_n dX5_set_115 rfl ?_
                refine hret _ _ _ _ _ _ dX5_set_116 rfl ?_
                have hr : (k = 0 → rmst k = 99) ∧ (k ≠ 0 → rmst k = 50) := by unfold rmst; omega
                first
                | (refine ⟨rfl, rfl, ?_, fun a b => ?_⟩
                   · rw [if_neg (by omega)]
                   · rw [if_neg (by omega)])
                | (have hkk : k = 0 ∨ k = 1 ∨ k = 2 := by omega
                   rcases hkk with rfl | rfl | rfl <;> first
                   | (exfalso; omega)
                   | (refine ⟨rfl, rfl, ?_, fun a b => ?_⟩
                      · rw [if_pos (by omega)]; rfl
                      · have e : (Int.toNat 0 = 0) ∧ (Int.toNat 1 = 1) ∧ (Int.toNat 2 = 2) := ⟨rfl, rfl, rfl⟩
                        by_cases z : a = 50
                        · subst z
                          unfold up
                          rcases (by omega : b = 2 ∨ b = 3 ∨ b = 4 ∨ (b ≠ 2 ∧ b ≠ 3 ∧ b ≠ 4)) with rfl | rfl | rfl | z2 <;> (repeat' split) <;> first | rfl | omega
                        · rw [up_n1 z, up_n1 z, up_n1 z, if_neg (by omega)]))
          · refine x_iload_n dX5_set_70 rfl ?_
            refine x_goto 78 dX5_set_71 (by decide) ?_
            refine x_putI dX5_set_78 pf_RX5_66 rfl rfl ?_
            refine x_aload_n dX5_set_81 rfl ?_
            refine x_iload_n dX5_set_82 rfl ?_
            refine x_iconst dX5_set_83 ?_
            refine x_icmp_ne 91 dX5_set_84 (by decide) hk (by unfold inr; omega) (fun h_84 => ?_) (fun h_84 => ?_)
            · refine x_aload_n dX5_set_91 rfl ?_
              refine x_getI dX5_set_92 gf_RX5_59 rfl rfl ?_
              refine x_putI dX5_set_95 pf_RX5_59 rfl rfl ?_
              refine x_aload_n dX5_set_98 rfl ?_
              refine x_iload_n dX5_set_99 rfl ?_
              refine x_iconst dX5_set_100 ?_
              refine x_icmp_ne 108 dX5_set_101 (by decide) hk (by unfold inr; omega) (fun h_101 => ?_) (fun h_101 => ?_)
              · refine x_aload_n dX5_set_108 rfl ?_
                refine x_getI dX5_set_109 gf_RX5_63 rfl rfl ?_
                refine x_putI dX5_set_112 pf_RX5_63 rfl rfl ?_
                refine x_iload_n dX5_set_115 rfl ?_
                refine hret _ _ _ _ _ _ dX5_set_116 rfl ?_
                have hr : (k = 0 → rmst k = 99) ∧ (k ≠ 0 → rmst k = 50) := by unfold rmst; omega
                first
                | (refine ⟨rfl, rfl, ?_, fun a b => ?_⟩
                   · rw [if_neg (by omega)]
                   · rw [if_neg (by omega)])
                | (have hkk : k = 0 ∨ k = 1 ∨ k = 2 := by omega
                   rcases hkk with rfl | rfl | rfl <;> first
                   | (exfalso; omega)
                   | (refine ⟨rfl, rfl, ?_, fun a b => ?_⟩
                      · rw [if_pos (by omega)]; rfl
                      · have e : (Int.toNat 0 = 0) ∧ (Int.toNat 1 = 1) ∧ (Int.toNat 2 = 2) := ⟨rfl, rfl, rfl⟩
                        by_cases z : a = 50
                        · subst z
                          unfold up
                          rcases (by omega : b = 2 ∨ b = 3 ∨ b = 4 ∨ (b ≠ 2 ∧ b ≠ 3 ∧ b ≠ 4)) with rfl | rfl | rfl | z2 <;> (repeat' split) <;> first | rfl | omega
                        · rw [up_n1 z, up_n1 z, up_n1 z, if_neg (by omega)]))
              · refine x_iload_n dX5_set_104 rfl ?_
                refine x_goto 112 dX5_set_105 (by decide) ?_
                refine x_putI dX5_set_112 pf_RX5_63 rfl rfl ?_
                refine x_iload_n dX5_set_115 rfl ?_
                refine hret _ _ _ _ _ _ dX5_set_116 rfl ?_
                have hr : (k = 0 → rmst k = 99) ∧ (k ≠ 0 → rmst k = 50) := by unfold rmst; omega
                first
                | (refine ⟨rfl, rfl, ?_, fun a b => ?_⟩
                   · rw [if_neg (by omega)]
                   · rw [if_neg (by omega)])
                | (have hkk : k = 0 ∨ k = 1 ∨ k = 2 := by omega
                   rcases hkk with rfl | rfl | rfl <;> first
                   | (exfalso; omega)
                   | (refine ⟨rfl, rfl, ?_, fun a b => ?_⟩
                      · rw [if_pos (by omega)]; rfl
                      · have e : (Int.toNat 0 = 0) ∧ (Int.toNat 1 = 1) ∧ (Int.toNat 2 = 2) := ⟨rfl, rfl, rfl⟩
                        by_cases z : a = 50
                        · subst z
                          unfold up
                          rcases (by omega : b = 2 ∨ b = 3 ∨ b = 4 ∨ (b ≠ 2 ∧ b ≠ 3 ∧ b ≠ 4)) with rfl | rfl | rfl | z2 <;> (repeat' split) <;> first | rfl | omega
                        · rw [up_n1 z, up_n1 z, up_n1 z, if_neg (by omega)]))
            · refine x_iload_n dX5_set_87 rfl ?_
              refine x_goto 95 dX5_set_88 (by decide) ?_
              refine x_putI dX5_set_95 pf_RX5_59 rfl rfl ?_
              refine x_aload_n dX5_set_98 rfl ?_
              refine x_iload_n dX5_set_99 rfl ?_
              refine x_iconst dX5_set_100 ?_
              refine x_icmp_ne 108 dX5_set_101 (by decide) hk (by unfold inr; omega) (fun h_101 => ?_) (fun h_101 => ?_)
              · refine x_aload_n dX5_set_108 rfl ?_
                refine x_getI dX5_set_109 gf_RX5_63 rfl rfl ?_
                refine x_putI dX5_set_112 pf_RX5_63 rfl rfl ?_
                refine x_iload_n dX5_set_115 rfl ?_
                refine hret _ _ _ _ _ _ dX5_set_116 rfl ?_
                have hr : (k = 0 → rmst k = 99) ∧ (k ≠ 0 → rmst k = 50) := by unfold rmst; omega
                first
                | (refine ⟨rfl, rfl, ?_, fun a b => ?_⟩
                   · rw [if_neg (by omega)]
                   · rw [if_neg (by omega)])
                | (have hkk : k = 0 ∨ k = 1 ∨ k = 2 := by omega
                   rcases hkk with rfl | rfl | rfl <;> first
                   | (exfalso; omega)
                   | (refine ⟨rfl, rfl, ?_, fun a b => ?_⟩
                      · rw [if_pos (by omega)]; rfl
                      · have e : (Int.toNat 0 = 0) ∧ (Int.toNat 1 = 1) ∧ (Int.toNat 2 = 2) := ⟨rfl, rfl, rfl⟩
                        by_cases z : a = 50
                        · subst z
                          unfold up
                          rcases (by omega : b = 2 ∨ b = 3 ∨ b = 4 ∨ (b ≠ 2 ∧ b ≠ 3 ∧ b ≠ 4)) with rfl | rfl | rfl | z2 <;> (repeat' split) <;> first | rfl | omega
                        · rw [up_n1 z, up_n1 z, up_n1 z, if_neg (by omega)]))
              · refine x_iload_n dX5_set_104 rfl ?_
                refine x_goto 112 dX5_set_105 (by decide) ?_
                refine x_putI dX5_set_112 pf_RX5_63 rfl rfl ?_
                refine x_iload_n dX5_set_115 rfl ?_
                refine hret _ _ _ _ _ _ dX5_set_116 rfl ?_
                have hr : (k = 0 → rmst k = 99) ∧ (k ≠ 0 → rmst k = 50) := by unfold rmst; omega
                first
                | (refine ⟨rfl, rfl, ?_, fun a b => ?_⟩
                   · rw [if_neg (by omega)]
                   · rw [if_neg (by omega)])
                | (have hkk : k = 0 ∨ k = 1 ∨ k = 2 := by omega
                   rcases hkk with rfl | rfl | rfl <;> first
                   | (exfalso; omega)
                   | (refine ⟨rfl, rfl, ?_, fun a b => ?_⟩
                      · rw [if_pos (by omega)]; rfl
                      · have e : (Int.toNat 0 = 0) ∧ (Int.toNat 1 = 1) ∧ (Int.toNat 2 = 2) := ⟨rfl, rfl, rfl⟩
                        by_cases z : a = 50
                        · subst z
                          unfold up
                          rcases (by omega : b = 2 ∨ b = 3 ∨ b = 4 ∨ (b ≠ 2 ∧ b ≠ 3 ∧ b ≠ 4)) with rfl | rfl | rfl | z2 <;> (repeat' split) <;> first | rfl | omega
                        · rw [up_n1 z, up_n1 z, up_n1 z, if_neg (by omega)]))
      · replace h_31 := b0 h_31
        refine x_bipush dX5_set_34 (by decide) ?_
        refine hret _ _ _ _ _ _ dX5_set_36 rfl ?_
        have hr : (k = 0 → rmst k = 99) ∧ (k ≠ 0 → rmst k = 50) := by unfold rmst; omega
        first
        | (refine ⟨rfl, rfl, ?_, fun a b => ?_⟩
           · rw [if_neg (by omega)]
           · rw [if_neg (by omega)])
        | (have hkk : k = 0 ∨ k = 1 ∨ k = 2 := by omega
           rcases hkk with rfl | rfl | rfl <;> first
           | (exfalso; omega)
           | (refine ⟨rfl, rfl, ?_, fun a b => ?_⟩
              · rw [if_pos (by omega)]; rfl
              · have e : (Int.toNat 0 = 0) ∧ (Int.toNat 1 = 1) ∧ (Int.toNat 2 = 2) := ⟨rfl, rfl, rfl⟩
                by_cases z : a = 50
                · subst z
                  unfold up
                  rcases (by omega : b = 2 ∨ b = 3 ∨ b = 4 ∨ (b ≠ 2 ∧ b ≠ 3 ∧ b ≠ 4)) with rfl | rfl | rfl | z2 <;> (repeat' split) <;> first | rfl | omega
                · rw [up_n1 z, up_n1 z, up_n1 z, if_neg (by omega)]))
end FR

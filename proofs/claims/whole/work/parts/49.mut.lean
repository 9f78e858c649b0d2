/-! ===== what the calls that change it come to, on both sides ===== -/
/-- the numbers of the living farms, without the images -/
def rlv (a k : Nat) : Prop := (1 ≤ a ∧ a ≤ 5) ∨ a = 19 ∨ (a = 18 ∧ k = 1) ∨ (a = 50 ∧ (k = 0 ∨ k = 2 ∨ k = 3 ∨ k = 4 ∨ k = 5 ∨ k = 8 ∨ k = 10)) ∨ (51 ≤ a ∧ a ≤ 54)
theorem Rel.alive {K K1 : List Nat} {N N1 : NN} {I J : MM} {n d s : Nat} {P : Int} (h : Rel K N I n d s P) (hk : ∀ a k, rlv a k → J a k = I a k) (h1 : NS N1 ∧ KN K1 N1) (hi : ∀ j, j < 2 → ImR J N1 j P) : Rel K1 N1 J n d s P := by
  obtain ⟨-, h2, h3, ⟨c1, c2, c3, c4, ⟨c6, c7, c8⟩, c9⟩, ⟨s1, s2, s3⟩, ⟨⟨p1, p2, p3⟩, p4⟩, h7, -⟩ := h
  have k' : ∀ a, ((2 ≤ a ∧ a ≤ 5) ∨ a = 19 ∨ (51 ≤ a ∧ a ≤ 54)) → J a = I a := fun a ha => by funext k; exact hk a k (by unfold rlv; omega)
  have hf : fa J 1 = fa I 1 := fa_eq (fun k => hk _ k (by unfold rlv; omega))
  have hm : fm J = fm I := fm_eq (fun k => hk _ k (by unfold rlv; omega))
  refine ⟨h1, h2.of (hk _ _ (by unfold rlv; omega)) hf (fun k _ => hk _ k (by unfold rlv; omega)), h3.of (hk _ _ (by unfold rlv; omega)) hm (hk _ _ (by unfold rlv; omega)) (hk _ _ (by unfold rlv; omega)) (hk _ _ (by unfold rlv; omega)), ⟨?_, ?_, ?_, fun k hk8 => ?_, ⟨?_, ?_, ?_⟩, ?_⟩, ⟨?_, s2, fun j hj => ?_⟩, ⟨⟨?_, p2, fun j hj => ?_⟩, ?_⟩, ?_, hi⟩
  · rw [hf, hm]; exact c1
  · rw [hk _ _ (by unfold rlv; omega), hk _ _ (by unfold rlv; omega)]; exact c2
  · rw [k' _ (by omega), k' _ (by omega)]; exact c3
  · rw [k' _ (by omega), k' _ (by omega), k' _ (by omega), k' _ (by omega)]; exact c4 k hk8
  · rw [hk _ _ (by unfold rlv; omega), hk _ _ (by unfold rlv; omega)]; exact c6
  · rw [hk _ _ (by unfold rlv; omega), hk _ _ (by unfold rlv; omega)]; exact c7
  · rw [hk _ _ (by unfold rlv; omega), hk _ _ (by unfold rlv; omega)]; exact c8
  · rw [hk _ _ (by unfold rlv; omega), hk _ _ (by unfold rlv; omega)]; exact c9
  · rw [hk _ _ (by unfold rlv; omega)]; exact s1
  · rw [hk _ _ (by unfold rlv; omega), hk _ _ (by unfold rlv; omega)]; exact s3 j hj
  · rw [hk _ _ (by unfold rlv; omega)]; exact p1
  · rw [hk _ _ (by unfold rlv; omega)]; exact p3 j hj
  · rw [hk _ _ (by unfold rlv; omega)]; exact p4
  · rw [hm]; exact h7
/-- images stand where neither side's images are touched -/
theorem Rel.ims {K : List Nat} {N : NN} {I J : MM} {n d s : Nat} {P Q : Int} (h : Rel K N I n d s P) (hk : ∀ a k, (36 ≤ a ∧ a ≤ 45) ∨ 65 ≤ a → J a k = I a k) (hq : P ≤ Q) : ∀ j, j < 2 → ImR J N j Q := fun j hj => (h.2.2.2.2.2.2.2 j hj).keep hj rfl (hk _ _ (by omega)) (fun a k q => hk a k (by omega)) hq
theorem Rel.farms {K : List Nat} {N : NN} {I : MM} {n d s : Nat} {P z : Int} (h : Rel K N I n d s P) (hP : 0 ≤ P ∧ P ≤ 1000000) (hz : 1 ≤ z ∧ z ≤ 9) : Rel K N (bmS (beJ I 1 z) z 63) z.toNat d 0 P := by
  obtain ⟨X, hX⟩ : ∃ X, X = bmS (beJ I 1 z) z 63 := ⟨_, rfl⟩
  have ho : ∀ a k, ¬ (a = 50 ∧ (k = 0 ∨ k = 5 ∨ k = 8)) → ¬ (a = 51 ∧ k < 63) → ¬ (a = 1 ∧ k ≤ 2) → ¬ (a = 2 ∧ k < 63) → X a k = I a k := fun a k q1 q2 q3 q4 => by
    rw [hX]; unfold bmS beJ
    rw [if_neg (by omega), if_neg (by omega), if_neg (by omega), if_neg (by omega), if_neg (by omega), if_neg (by omega)]
  have x0 : X 50 0 = z := by rw [hX]; rfl
  have x5 : X 50 5 = 0 := by rw [hX]; rfl
  have x8 : X 50 8 = 0 := by rw [hX]; rfl
  have y0 : X 1 0 = z := by rw [hX]; rfl
  have y1 : X 1 1 = 0 := by rw [hX]; rfl
  have y2 : X 1 2 = 0 := by rw [hX]; rfl
  have hm : fm X = fun f k => if f < 9 ∧ k < 7 then fst7 k else 0 := by
    funext f k
    unfold fm
    by_cases q : f < 9 ∧ k < 7
    · rw [if_pos q, if_pos q, hX]
      unfold bmS
      rw [if_neg (by omega), if_neg (by omega), if_pos ⟨rfl, by omega⟩, show (9 * k + f) / 9 = k by omega]
    · rw [if_neg q, if_neg q]
  have hf : fa X 1 = fun f k => if f < 9 ∧ k < 7 then fst7 k else 0 := by
    funext f k
    unfold fa
    by_cases q : f < 9 ∧ k < 7
    · rw [if_pos q, if_pos q, hX]
      unfold bmS beJ
      rw [if_neg (by omega), if_neg (by omega), if_neg (by omega), if_neg (by omega), if_neg (by omega), if_pos ⟨rfl, by omega⟩, show (7 * f + k) % 7 = k by omega]
    · rw [if_neg q, if_neg q]
  obtain ⟨c1, c2, c3, c4, ⟨c6, c7, c8⟩, c9⟩ := h.2.2.2.1
  obtain ⟨⟨p1, p2, p3⟩, p4⟩ := h.2.2.2.2.2.1
  rw [← hX]
  refine Rel.lives h.1 (by omega) (by rw [x0]; omega) (by rw [y0]; omega) (fst_b (by omega) hP.1 hm) hP.2 ?_ ⟨by rw [hf, hm], by rw [y1, x5], ?_, fun k hk => ?_, ⟨?_, ?_, ?_⟩, by rw [y2, x8]⟩ ⟨y2, by omega, fun j hj => absurd hj (Nat.not_lt_zero j)⟩ ⟨⟨?_, p2, fun j hj => ?_⟩, ?_⟩ (h.ims (fun a k q => ho a k (by omega) (by omega) (by omega) (by omega)) (Int.le_refl _))
  · rw [ho 50 2 (by omega) (by omega) (by omega) (by omega), ho 50 3 (by omega) (by omega) (by omega) (by omega), ho 50 4 (by omega) (by omega) (by omega) (by omega)]; exact h.rates
  · funext j
    rw [ho 19 j (by omega) (by omega) (by omega) (by omega), ho 54 j (by omega) (by omega) (by omega) (by omega), c3]
  · rw [ho 4 k (by omega) (by omega) (by omega) (by omega), ho 52 k (by omega) (by omega) (by omega) (by omega), ho 5 k (by omega) (by omega) (by omega) (by omega), ho 53 k (by omega) (by omega) (by omega) (by omega)]; exact c4 k hk
  · rw [ho 3 0 (by omega) (by omega) (by omega) (by omega), ho 50 2 (by omega) (by omega) (by omega) (by omega)]; exact c6
  · rw [ho 3 1 (by omega) (by omega) (by omega) (by omega), ho 50 3 (by omega) (by omega) (by omega) (by omega)]; exact c7
  · rw [ho 3 2 (by omega) (by omega) (by omega) (by omega), ho 50 4 (by omega) (by omega) (by omega) (by omega)]; exact c8
  · rw [ho 18 1 (by omega) (by omega) (by omega) (by omega)]; exact p1
  · rw [ho 19 j (by omega) (by omega) (by omega) (by omega)]; exact p3 j hj
  · rw [ho 50 10 (by omega) (by omega) (by omega) (by omega)]; exact p4
theorem Rel.farm {K : List Nat} {N : NN} {I : MM} {n d s f k : Nat} {P v : Int} (h : Rel K N I n d s P) (hP : 999 ≤ P ∧ P ≤ 1000000) (hf : f < n) (hk : k < 7) (hv : 0 ≤ v ∧ v ≤ gmst k) : Rel K N (up (up I 2 (7 * f + k) v) 51 (9 * k + f) v) n d s P := by
  have hn9 := h.2.2.1.2.2.1
  obtain ⟨X, hX⟩ : ∃ X, X = up (up I 2 (7 * f + k) v) 51 (9 * k + f) v := ⟨_, rfl⟩
  have ho : ∀ a b, a ≠ 2 → a ≠ 51 → X a b = I a b := fun a b q1 q2 => by rw [hX, up_n1 q2, up_n1 q1]
  have hm : fm X = setF (fm I) f k v := by
    rw [hX, fm_put (by omega), fm_eq (I := I) (fun _ => up_n1 (by decide))]
  have hfa : fa X 1 = setF (fa I 1) f k v := by
    rw [hX, fa_eq (b := 1) (I := up I 2 (7 * f + k) v) (fun _ => up_n1 (by decide))]
    exact fa_put (b := 1) (by omega)
  have g0 : (k = 0 → v ≤ 50) ∧ (k = 1 → v ≤ 9) ∧ (k = 2 → v ≤ 99) ∧ (k = 3 → v ≤ 1) ∧ (k = 4 → v ≤ 1) ∧ (k = 5 → v ≤ 9) ∧ v ≤ 999 := by
    unfold gmst at hv
    rcases (by omega : k = 0 ∨ k = 1 ∨ k = 2 ∨ k = 3 ∨ k = 4 ∨ k = 5 ∨ k = 6) with rfl | rfl | rfl | rfl | rfl | rfl | rfl <;> simp at hv <;> omega
  have hO : okD (setF (fm I) f k v) n P := by
    intro g hg
    have h1 := h.okP g hg
    unfold setF
    by_cases hgf : g = f
    · subst hgf
      refine ⟨?_, ?_, ?_, ?_, ?_, ?_, ?_⟩ <;> (split <;> omega)
    · simp only [hgf, false_and, if_false]; exact h1
  obtain ⟨c1, c2, c3, c4, ⟨c6, c7, c8⟩, c9⟩ := h.2.2.2.1
  obtain ⟨⟨p1, p2, p3⟩, p4⟩ := h.2.2.2.2.2.1
  obtain ⟨s1, s2, s3⟩ := h.2.2.2.2.1
  rw [← hX]
  refine Rel.lives h.1 ⟨h.2.2.1.2.1, hn9⟩ (by rw [ho _ _ (by decide) (by decide)]; exact h.2.2.1.1) (by rw [ho _ _ (by decide) (by decide)]; exact h.2.1.1) (by rw [hm]; exact hO) hP.2 ?_ ⟨by rw [hfa, hm, c1], ?_, ?_, fun k hk => ?_, ⟨?_, ?_, ?_⟩, ?_⟩ ⟨?_, s2, fun j hj => ?_⟩ ⟨⟨?_, p2, fun j hj => ?_⟩, ?_⟩ (h.ims (fun a k q => ho a k (by omega) (by omega)) (Int.le_refl _))
  · rw [ho 50 2 (by decide) (by decide), ho 50 3 (by decide) (by decide), ho 50 4 (by decide) (by decide)]; exact h.rates
  · rw [ho _ _ (by decide) (by decide), ho _ _ (by decide) (by decide)]; exact c2
  · funext j
    rw [ho _ _ (by decide) (by decide), ho _ _ (by decide) (by decide), c3]
  · rw [ho _ _ (by decide) (by decide), ho _ _ (by decide) (by decide), ho _ _ (by decide) (by decide), ho _ _ (by decide) (by decide)]; exact c4 k hk
  · rw [ho _ _ (by decide) (by decide), ho _ _ (by decide) (by decide)]; exact c6
  · rw [ho _ _ (by decide) (by decide), ho _ _ (by decide) (by decide)]; exact c7
  · rw [ho _ _ (by decide) (by decide), ho _ _ (by decide) (by decide)]; exact c8
  · rw [ho _ _ (by decide) (by decide), ho _ _ (by decide) (by decide)]; exact c9
  · rw [ho _ _ (by decide) (by decide)]; exact s1
  · rw [ho _ _ (by decide) (by decide), ho _ _ (by decide) (by decide)]; exact s3 j hj
  · rw [ho _ _ (by decide) (by decide)]; exact p1
  · rw [ho _ _ (by decide) (by decide)]; exact p3 j hj
  · rw [ho _ _ (by decide) (by decide)]; exact p4
theorem Rel.set {K : List Nat} {N : NN} {I X : MM} {n d s k : Nat} {P v : Int} (h : Rel K N I n d s P) (hP : P ≤ 1000000) (hk : k < 3) (hv : 0 ≤ v ∧ v ≤ rmst k) (hX : ∀ a b, X a b = if a = 50 ∧ b = 2 + k then v else if a = 3 ∧ b = k then v else I a b) : Rel K N X n d s P := by
  have ho : ∀ a b, a ≠ 3 → ¬ (a = 50 ∧ b = 2 + k) → X a b = I a b := fun a b q1 q2 => by rw [hX, if_neg q2, if_neg (fun z => q1 z.1)]
  have hm : fm X = fm I := fm_eq (fun j => ho _ _ (by decide) (by omega))
  have hfa : fa X 1 = fa I 1 := fa_eq (fun j => ho _ _ (by decide) (by omega))
  obtain ⟨c1, c2, c3, c4, ⟨c6, c7, c8⟩, c9⟩ := h.2.2.2.1
  obtain ⟨⟨p1, p2, p3⟩, p4⟩ := h.2.2.2.2.2.1
  obtain ⟨s1, s2, s3⟩ := h.2.2.2.2.1
  have hr := h.rates
  have hv2 : (k = 0 → v ≤ 99) ∧ (k ≠ 0 → v ≤ 50) := by unfold rmst at hv; omega
  have r1 : ∀ q, q < 3 → X 3 q = X 50 (2 + q) := fun q hq => by
    rw [hX, hX, if_neg (by omega)]
    by_cases z : q = k
    · rw [if_pos ⟨rfl, z⟩, if_pos ⟨rfl, by omega⟩]
    · rw [if_neg (by omega), if_neg (by omega), if_neg (by omega)]
      rcases (by omega : q = 0 ∨ q = 1 ∨ q = 2) with rfl | rfl | rfl
      · exact c6
      · exact c7
      · exact c8
  have r2 : ∀ q, q < 3 → X 50 (2 + q) = if q = k then v else I 50 (2 + q) := fun q hq => by
    rw [hX]
    by_cases z : q = k
    · rw [if_pos ⟨rfl, by omega⟩, if_pos z]
    · rw [if_neg (by omega), if_neg (by omega), if_neg z]
  refine Rel.lives h.1 ⟨h.2.2.1.2.1, h.2.2.1.2.2.1⟩ (by rw [ho _ _ (by decide) (by omega)]; exact h.2.2.1.1) (by rw [ho _ _ (by decide) (by omega)]; exact h.2.1.1) (by rw [hm]; exact h.okP) hP ?_ ⟨by rw [hfa, hm, c1], ?_, ?_, fun k hk => ?_, ⟨r1 0 (by decide), r1 1 (by decide), r1 2 (by decide)⟩, ?_⟩ ⟨?_, s2, fun j hj => ?_⟩ ⟨⟨?_, p2, fun j hj => ?_⟩, ?_⟩ (h.ims (fun a k q => ho a k (by omega) (by omega)) (Int.le_refl _))
  · rw [r2 0 (by decide), r2 1 (by decide), r2 2 (by decide)]
    have hr' : (0 ≤ I 50 (2 + 0) ∧ I 50 (2 + 0) ≤ 99) ∧ (0 ≤ I 50 (2 + 1) ∧ I 50 (2 + 1) ≤ 50) ∧ (0 ≤ I 50 (2 + 2) ∧ I 50 (2 + 2) ≤ 50) := hr
    refine ⟨?_, ?_, ?_⟩ <;> (split <;> omega)
  · rw [ho _ _ (by decide) (by omega), ho _ _ (by decide) (by omega)]; exact c2
  · funext j
    rw [ho _ _ (by decide) (by omega), ho _ _ (by decide) (by omega), c3]
  · rw [ho _ _ (by decide) (by omega), ho _ _ (by decide) (by omega), ho _ _ (by decide) (by omega), ho _ _ (by decide) (by omega)]; exact c4 k hk
  · rw [ho _ _ (by decide) (by omega), ho _ _ (by decide) (by omega)]; exact c9
  · rw [ho _ _ (by decide) (by omega)]; exact s1
  · rw [ho _ _ (by decide) (by omega), ho _ _ (by decide) (by omega)]; exact s3 j hj
  · rw [ho _ _ (by decide) (by omega)]; exact p1
  · rw [ho _ _ (by decide) (by omega)]; exact p3 j hj
  · rw [ho _ _ (by decide) (by omega)]; exact p4
theorem Rel.pads {K : List Nat} {N : NN} {I X : MM} {n d s e : Nat} {P : Int} (h : Rel K N I n d s P) (hP : P ≤ 1000000) (ho : ∀ a b, ¬ (a = 18 ∧ b = 1) → ¬ (a = 50 ∧ b = 10) → a ≠ 19 → a ≠ 54 → X a b = I a b) (h1 : X 18 1 = (e : Int)) (h2 : X 50 10 = (e : Int)) (he : e ≤ 60) (h3 : ∀ j, j < e → 33 ≤ X 19 j ∧ X 19 j ≤ 126) (h4 : X 19 = X 54) : Rel K N X n e s P := by
  have hm : fm X = fm I := fm_eq (fun j => ho _ _ (by omega) (by omega) (by decide) (by decide))
  have hfa : fa X 1 = fa I 1 := fa_eq (fun j => ho _ _ (by omega) (by omega) (by decide) (by decide))
  obtain ⟨c1, c2, c3, c4, ⟨c6, c7, c8⟩, c9⟩ := h.2.2.2.1
  obtain ⟨s1, s2, s3⟩ := h.2.2.2.2.1
  have oo : ∀ a b, a ≠ 18 → a ≠ 19 → a ≠ 54 → (a = 50 → b ≠ 10) → X a b = I a b := fun a b q1 q2 q3 q4 => ho a b (by omega) (by omega) q2 q3
  refine Rel.lives h.1 ⟨h.2.2.1.2.1, h.2.2.1.2.2.1⟩ (by rw [oo _ _ (by decide) (by decide) (by decide) (by decide)]; exact h.2.2.1.1) (by rw [oo _ _ (by decide) (by decide) (by decide) (by decide)]; exact h.2.1.1) (by rw [hm]; exact h.okP) hP ?_ ⟨by rw [hfa, hm, c1], ?_, h4, fun k hk => ?_, ⟨?_, ?_, ?_⟩, ?_⟩ ⟨?_, s2, fun j hj => ?_⟩ ⟨⟨h1, he, h3⟩, h2⟩ (h.ims (fun a k q => oo a k (by omega) (by omega) (by omega) (by omega)) (Int.le_refl _))
  · rw [oo 50 2 (by decide) (by decide) (by decide) (by decide), oo 50 3 (by decide) (by decide) (by decide) (by decide), oo 50 4 (by decide) (by decide) (by decide) (by decide)]; exact h.rates
  · rw [oo _ _ (by decide) (by decide) (by decide) (by decide), oo _ _ (by decide) (by decide) (by decide) (by decide)]; exact c2
  · rw [oo _ _ (by decide) (by decide) (by decide) (by omega), oo _ _ (by decide) (by decide) (by decide) (by omega), oo _ _ (by decide) (by decide) (by decide) (by omega), oo _ _ (by decide) (by decide) (by decide) (by omega)]; exact c4 k hk
  · rw [oo _ _ (by decide) (by decide) (by decide) (by decide), oo _ _ (by decide) (by decide) (by decide) (by decide)]; exact c6
  · rw [oo _ _ (by decide) (by decide) (by decide) (by decide), oo _ _ (by decide) (by decide) (by decide) (by decide)]; exact c7
  · rw [oo _ _ (by decide) (by decide) (by decide) (by decide), oo _ _ (by decide) (by decide) (by decide) (by decide)]; exact c8
  · rw [oo _ _ (by decide) (by decide) (by decide) (by decide), oo _ _ (by decide) (by decide) (by decide) (by decide)]; exact c9
  · rw [oo _ _ (by decide) (by decide) (by decide) (by decide)]; exact s1
  · rw [oo _ _ (by decide) (by decide) (by decide) (by omega), oo _ _ (by decide) (by decide) (by decide) (by omega)]; exact s3 j hj
theorem Rel.say {K : List Nat} {N : NN} {I : MM} {n d s : Nat} {P c : Int} (h : Rel K N I n d s P) (hP : P ≤ 1000000) (hd : d < 60) (hc : 33 ≤ c ∧ c ≤ 126) : Rel K N (up (up (up (up I 19 d c) 18 1 ((d : Int) + 1)) 54 d c) 50 10 ((d : Int) + 1)) n (d + 1) s P := by
  refine h.pads hP (fun a b q1 q2 q3 q4 => by rw [up_n q2, up_n1 q4, up_n q1, up_n1 q3]) ?_ ?_ hd (fun j hj => ?_) ?_
  · rw [up_n1 (by decide), up_n1 (by decide), up_s]; rfl
  · rw [up_s]; rfl
  · rw [up_n1 (by decide), up_n1 (by decide), up_n1 (by decide)]
    by_cases e : j = d
    · rw [e, up_s]; exact hc
    · rw [up_n2 e]; exact h.2.2.2.2.2.1.1.2.2 j (by omega)
  · funext j
    have e1 : (up (up (up (up I 19 d c) 18 1 ((d : Int) + 1)) 54 d c) 50 10 ((d : Int) + 1)) 19 j = up I 19 d c 19 j := by
      rw [up_n1 (by decide), up_n1 (by decide), up_n1 (by decide)]
    have e2 : (up (up (up (up I 19 d c) 18 1 ((d : Int) + 1)) 54 d c) 50 10 ((d : Int) + 1)) 54 j = up (up (up I 19 d c) 18 1 ((d : Int) + 1)) 54 d c 54 j := up_n1 (by decide)
    rw [e1, e2]
    by_cases e : j = d
    · rw [e, up_s, up_s]
    · rw [up_n2 e, up_n2 e, up_n1 (by decide), up_n1 (by decide), h.2.2.2.1.2.2.1]
theorem Rel.wipe {K : List Nat} {N : NN} {I : MM} {n d s : Nat} {P : Int} (h : Rel K N I n d s P) (hP : P ≤ 1000000) : Rel K N (up (up I 18 1 0) 50 10 0) n 0 s P := by
  refine h.pads hP (fun a b q1 q2 q3 q4 => by rw [up_n q2, up_n q1]) ?_ ?_ (by omega) (fun j hj => absurd hj (Nat.not_lt_zero j)) ?_
  · rw [up_n1 (by decide), up_s]; rfl
  · rw [up_s]; rfl
  · funext j
    rw [up_n1 (by decide), up_n1 (by decide), up_n1 (by decide), up_n1 (by decide), h.2.2.2.1.2.2.1]
theorem Rel.sights {K : List Nat} {N : NN} {I X : MM} {n d s e : Nat} {P : Int} (h : Rel K N I n d s P) (hP : P ≤ 1000000) (ho : ∀ a b, ¬ (a = 1 ∧ b = 2) → ¬ (a = 50 ∧ b = 8) → a ≠ 4 → a ≠ 5 → a ≠ 52 → a ≠ 53 → X a b = I a b) (h1 : X 1 2 = (e : Int)) (h2 : X 50 8 = (e : Int)) (he : e ≤ 8) (h3 : ∀ j, j < e → (0 ≤ X 4 j ∧ X 4 j < n) ∧ (0 ≤ X 5 j ∧ X 5 j ≤ 9)) (h4 : ∀ k, k < 8 → X 4 k = X 52 k ∧ X 5 k = X 53 k) : Rel K N X n d e P := by
  have oo : ∀ a b, (a ≠ 4 ∧ a ≠ 5 ∧ a ≠ 52 ∧ a ≠ 53 ∧ (a = 1 → b ≠ 2) ∧ (a = 50 → b ≠ 8)) → X a b = I a b := fun a b q => ho a b (by omega) (by omega) (by omega) (by omega) (by omega) (by omega)
  have hm : fm X = fm I := fm_eq (fun j => oo _ _ (by omega))
  have hfa : fa X 1 = fa I 1 := fa_eq (fun j => oo _ _ (by omega))
  obtain ⟨c1, c2, c3, c4, ⟨c6, c7, c8⟩, c9⟩ := h.2.2.2.1
  obtain ⟨⟨p1, p2, p3⟩, p4⟩ := h.2.2.2.2.2.1
  refine Rel.lives h.1 ⟨h.2.2.1.2.1, h.2.2.1.2.2.1⟩ (by rw [oo _ _ (by omega)]; exact h.2.2.1.1) (by rw [oo _ _ (by omega)]; exact h.2.1.1) (by rw [hm]; exact h.okP) hP ?_ ⟨by rw [hfa, hm, c1], ?_, ?_, h4, ⟨?_, ?_, ?_⟩, by rw [h1, h2]⟩ ⟨h1, he, h3⟩ ⟨⟨?_, p2, fun j hj => ?_⟩, ?_⟩ (h.ims (fun a k q => oo a k (by omega)) (Int.le_refl _))
  · rw [oo 50 2 (by omega), oo 50 3 (by omega), oo 50 4 (by omega)]; exact h.rates
  · rw [oo _ _ (by omega), oo _ _ (by omega)]; exact c2
  · funext j
    rw [oo _ _ (by omega), oo _ _ (by omega), c3]
  · rw [oo _ _ (by omega), oo _ _ (by omega)]; exact c6
  · rw [oo _ _ (by omega), oo _ _ (by omega)]; exact c7
  · rw [oo _ _ (by omega), oo _ _ (by omega)]; exact c8
  · rw [oo _ _ (by omega)]; exact p1
  · rw [oo _ _ (by omega)]; exact p3 j hj
  · rw [oo _ _ (by omega)]; exact p4
theorem Rel.seen {K : List Nat} {N : NN} {I : MM} {n d s : Nat} {P f t : Int} (h : Rel K N I n d s P) (hP : P ≤ 1000000) (hs : s < 8) (hf : 0 ≤ f ∧ f < n) (ht : 0 ≤ t ∧ t ≤ 9) : Rel K N (up (up (up (up (up (up I 4 s f) 5 s t) 1 2 ((s : Int) + 1)) 52 s f) 53 s t) 50 8 ((s : Int) + 1)) n d (s + 1) P := by
  obtain ⟨X, hX⟩ : ∃ X, X = up (up (up (up (up (up I 4 s f) 5 s t) 1 2 ((s : Int) + 1)) 52 s f) 53 s t) 50 8 ((s : Int) + 1) := ⟨_, rfl⟩
  have x4 : ∀ j, X 4 j = if j = s then f else I 4 j := fun j => by
    rw [hX, up_n1 (by decide), up_n1 (by decide), up_n1 (by decide), up_n1 (by decide), up_n1 (by decide)]
    by_cases e : j = s
    · rw [e, up_s, if_pos rfl]
    · rw [up_n2 e, if_neg e]
  have x5 : ∀ j, X 5 j = if j = s then t else I 5 j := fun j => by
    rw [hX, up_n1 (by decide), up_n1 (by decide), up_n1 (by decide), up_n1 (by decide)]
    by_cases e : j = s
    · rw [e, up_s, if_pos rfl]
    · rw [up_n2 e, if_neg e, up_n1 (by decide)]
  have x52 : ∀ j, X 52 j = if j = s then f else I 52 j := fun j => by
    rw [hX, up_n1 (by decide), up_n1 (by decide)]
    by_cases e : j = s
    · rw [e, up_s, if_pos rfl]
    · rw [up_n2 e, if_neg e, up_n1 (by decide), up_n1 (by decide), up_n1 (by decide)]
  have x53 : ∀ j, X 53 j = if j = s then t else I 53 j := fun j => by
    rw [hX, up_n1 (by decide)]
    by_cases e : j = s
    · rw [e, up_s, if_pos rfl]
    · rw [up_n2 e, if_neg e, up_n1 (by decide), up_n1 (by decide), up_n1 (by decide), up_n1 (by decide)]
  rw [← hX]
  refine h.sights hP (fun a b q1 q2 q3 q4 q5 q6 => by rw [hX, up_n q2, up_n1 q6, up_n1 q5, up_n q1, up_n1 q4, up_n1 q3]) ?_ ?_ hs (fun j hj => ?_) (fun k hk => ?_)
  · rw [hX, up_n1 (by decide), up_n1 (by decide), up_n1 (by decide), up_s]; rfl
  · rw [hX, up_s]; rfl
  · rw [x4, x5]
    by_cases e : j = s
    · rw [if_pos e, if_pos e]; exact ⟨hf, ht⟩
    · rw [if_neg e, if_neg e]; exact h.2.2.2.2.1.2.2 j (by omega)
  · rw [x4, x5, x52, x53]
    by_cases e : k = s
    · rw [if_pos e, if_pos e, if_pos e, if_pos e]; exact ⟨rfl, rfl⟩
    · rw [if_neg e, if_neg e, if_neg e, if_neg e]; exact h.2.2.2.1.2.2.2.1 k hk
theorem Rel.forget {K : List Nat} {N : NN} {I : MM} {n d s : Nat} {P : Int} (h : Rel K N I n d s P) (hP : P ≤ 1000000) : Rel K N (up (up I 1 2 0) 50 8 0) n d 0 P := by
  refine h.sights hP (fun a b q1 q2 q3 q4 q5 q6 => by rw [up_n q2, up_n q1]) ?_ ?_ (by omega) (fun j hj => absurd hj (Nat.not_lt_zero j)) (fun k hk => ?_)
  · rw [up_n1 (by decide), up_s]; rfl
  · rw [up_s]; rfl
  · rw [up_n1 (by decide), up_n1 (by decide), up_n1 (by decide), up_n1 (by decide), up_n1 (by decide), up_n1 (by decide), up_n1 (by decide), up_n1 (by decide)]; exact h.2.2.2.1.2.2.2.1 k hk
theorem Rel.done {K : List Nat} {N : NN} {I J X : MM} {n d s : Nat} {P : Int} {S : DT} (h : Rel K N I n d s P) (hP : P + 540 ≤ 1000000) (hd : doP I J n S) (hm : mdP J X n S) (hO : okD S.1 n (P + 540)) : Rel K N X n 0 s (P + 540) := by
  obtain ⟨d1, d2, d3, d4, d5, d6, d7, d8⟩ := hd
  obtain ⟨m1, m2, m3, m4⟩ := hm
  have c : ∀ a b, a < 50 → X a b = J a b := fun a b q => m4 a b (by unfold pcm; omega) (by omega) (by omega)
  have m : ∀ a b, pcm a b → 36 ≤ a → ¬ (a = 51 ∧ b < 63) → ¬ (a = 50 ∧ (b = 5 ∨ b = 10)) → X a b = I a b := fun a b q q1 q2 q3 => (m4 a b q q2 q3).trans (d8 a b (Or.inr q1))
  obtain ⟨c1, c2, c3, c4, ⟨c6, c7, c8⟩, c9⟩ := h.2.2.2.1
  obtain ⟨s1, s2, s3⟩ := h.2.2.2.2.1
  have m2' := m 50 2 (by unfold pcm; omega) (by decide) (by omega) (by omega)
  have m3' := m 50 3 (by unfold pcm; omega) (by decide) (by omega) (by omega)
  have m4' := m 50 4 (by unfold pcm; omega) (by decide) (by omega) (by omega)
  refine Rel.lives h.1 ⟨h.2.2.1.2.1, h.2.2.1.2.2.1⟩ ((m 50 0 (by unfold pcm; omega) (by decide) (by omega) (by omega)).trans h.2.2.1.1) ((c 1 0 (by decide)).trans d3) (by rw [m1]; exact hO) hP (by rw [m2', m3', m4']; exact h.rates) ⟨?_, ?_, ?_, fun k hk => ?_, ⟨?_, ?_, ?_⟩, ?_⟩ ⟨?_, s2, fun j hj => ?_⟩ ⟨⟨?_, by omega, fun j hj => absurd hj (Nat.not_lt_zero j)⟩, m3⟩ (h.ims (fun a k q => ?_) (by omega))
  · rw [m1, fa_eq (b := 1) (I := J) (fun k => c 2 k (by decide))]; exact d1
  · rw [m2, c 1 1 (by decide)]; exact d2
  · funext j
    rw [c 19 j (by decide), d8 19 j (Or.inl rfl), m 54 j (by unfold pcm; omega) (by decide) (by omega) (by omega), c3]
  · rw [c 4 k (by decide), c 5 k (by decide), (d6 k hk).1, (d6 k hk).2, m 52 k (by unfold pcm; omega) (by decide) (by omega) (by omega), m 53 k (by unfold pcm; omega) (by decide) (by omega) (by omega)]; exact c4 k hk
  · rw [c 3 0 (by decide), d5 0 (by decide), m2']; exact c6
  · rw [c 3 1 (by decide), d5 1 (by decide), m3']; exact c7
  · rw [c 3 2 (by decide), d5 2 (by decide), m4']; exact c8
  · rw [c 1 2 (by decide), d4, m 50 8 (by unfold pcm; omega) (by decide) (by omega) (by omega)]; exact c9
  · rw [c 1 2 (by decide), d4]; exact s1
  · rw [c 4 j (by decide), c 5 j (by decide), (d6 j (by omega)).1, (d6 j (by omega)).2]; exact s3 j hj
  · rw [c 18 1 (by decide)]; exact d7
  · exact m a k (by unfold pcm; omega) (by omega) (by omega) (by omega)
theorem ix50 : ixI 50 0 = 0 ∧ ixI 50 2 = 1 ∧ ixI 50 3 = 2 ∧ ixI 50 4 = 3 ∧ ixI 50 5 = 4 ∧ ixI 50 8 = 5 := by decide
theorem ix51 {b : Nat} (h : b < 63) : ixI 51 b = 6 + b := by unfold ixI; rw [if_neg (by decide), if_pos ⟨rfl, h⟩]
theorem ix52 {b : Nat} (h : b < 8) : ixI 52 b = 69 + 2 * b := by unfold ixI; rw [if_neg (by decide), if_neg (by omega), if_pos ⟨rfl, h⟩]
theorem ix53 {b : Nat} (h : b < 8) : ixI 53 b = 70 + 2 * b := by unfold ixI; rw [if_neg (by decide), if_neg (by omega), if_neg (by omega), if_pos ⟨rfl, h⟩]
theorem ix_o {a b : Nat} (h : a ≠ 50 ∧ a ≠ 51 ∧ a ≠ 52 ∧ a ≠ 53 ∨ (a = 50 ∧ b = 10)) : ixI a b = 85 := by have := ix_c a b; omega
theorem cpf {I : MM} {s d k : Nat} (h : k < 63) : cpR I s d (d + 1) k = I (s + 1) k := by unfold cpR; rw [if_neg (by omega), if_pos ⟨rfl, h⟩]
theorem Rel.image {K K1 : List Nat} {N N1 : NN} {I J X : MM} {n d s j : Nat} {P : Int} (h : Rel K N I n d s P) (hj : j < 2) (hc : imQ K N I j K1 N1 J) (hm : imM J X j) : Rel K1 N1 X n d s P := by
  obtain ⟨q1, q2, q3, -, I2, q5, rfl⟩ := hc
  obtain ⟨m1, m2, m3, m4⟩ := hm
  have hJ : ∀ a k, a < 36 + 5 * j ∨ 40 + 5 * j < a → cpR I2 1 (36 + 5 * j) a k = I a k := fun a k q => (cp_o (by omega)).trans (q5 a k q)
  have hX : ∀ a k, a ≠ 65 → ¬ (a = 66 ∧ k = j) → ¬ (a = 50 ∧ (k = 30 ∨ k = 31)) → (a < 36 + 5 * j ∨ 40 + 5 * j < a) → X a k = I a k := fun a k r1 r2 r3 r4 => (m1 a k r1 r2 r3).trans (hJ a k r4)
  have hb : ∀ a k, 36 + 5 * j ≤ a → a ≤ 40 + 5 * j → X a k = cpR I2 1 (36 + 5 * j) a k := fun a k r1 r2 => m1 a k (by omega) (by omega) (by omega)
  have e5 : ∀ a k, a < 36 → I2 a k = I a k := fun a k r => q5 a k (by omega)
  obtain ⟨c1, c2, c3, c4, ⟨c6, c7, c8⟩, c9⟩ := h.2.2.2.1
  obtain ⟨s1, s2, s3⟩ := h.2.2.2.2.1
  have b0 : ∀ k, k < 3 → X (36 + 5 * j) k = I 1 k := fun k hk => by rw [hb _ _ (by omega) (by omega), cp_0 hk, e5 _ _ (by decide)]
  have b2 : ∀ k, k < 3 → X (38 + 5 * j) k = I 3 k := fun k hk => by
    rw [hb _ _ (by omega) (by omega), show 38 + 5 * j = (36 + 5 * j) + 2 by omega, cp_2 hk, e5 _ _ (by decide)]
  have b3 : ∀ k, k < 8 → X (39 + 5 * j) k = I 4 k := fun k hk => by
    rw [hb _ _ (by omega) (by omega), show 39 + 5 * j = (36 + 5 * j) + 3 by omega, cp_3 hk, e5 _ _ (by decide)]
  have b4 : ∀ k, k < 8 → X (40 + 5 * j) k = I 5 k := fun k hk => by
    rw [hb _ _ (by omega) (by omega), show 40 + 5 * j = (36 + 5 * j) + 4 by omega, cp_4 hk, e5 _ _ (by decide)]
  have hfa : fa X (36 + 5 * j) = fa I 1 := by
    rw [fa_eq (I := cpR I2 1 (36 + 5 * j)) (fun k => hb _ k (by omega) (by omega)), fa_cp]
    exact fa_eq (fun k => e5 2 k (by decide))
  have m3' : ∀ a k i, ixI a k = i → i < 85 → X 65 (100 * j + i) = cpR I2 1 (36 + 5 * j) a k := fun a k i r1 r2 => by rw [← r1]; exact m3 a k (by omega)
  have hRB : RB X (36 + 5 * j) n := h.2.1.of (b0 0 (by decide)) hfa (fun k hk => by rw [show 36 + 5 * j + 2 = 38 + 5 * j by omega]; exact b2 k hk)
  refine h.alive (fun a k q => hX a k (by unfold rlv at q; omega) (by unfold rlv at q; omega) (by unfold rlv at q; omega) (by unfold rlv at q; omega)) ⟨q1, q3⟩ (fun i hi => ?_)
  by_cases e : i = j
  · subst e
    refine Or.inr ⟨by rw [q2, if_pos rfl], m2, n, s, hRB, fun f hf => ?_, ⟨?_, s2, fun k hk => ?_⟩, ⟨?_, ?_, ?_, ?_, ?_, ?_⟩, fun f k r1 r2 => ?_, fun k hk => ⟨?_, ?_⟩⟩
    · rw [hfa, c1]; exact h.2.2.2.2.2.2.1 f hf
    · rw [b0 2 (by decide)]; exact s1
    · rw [b3 k (by omega), b4 k (by omega)]; exact s3 k hk
    · rw [m3' 50 0 0 rfl (by decide), hJ _ _ (by omega), b0 0 (by decide), h.2.1.1, h.2.2.1.1]
    · rw [m3' 50 2 1 rfl (by decide), hJ _ _ (by omega), b2 0 (by decide), c6]
    · rw [m3' 50 3 2 rfl (by decide), hJ _ _ (by omega), b2 1 (by decide), c7]
    · rw [m3' 50 4 3 rfl (by decide), hJ _ _ (by omega), b2 2 (by decide), c8]
    · rw [m3' 50 5 4 rfl (by decide), hJ _ _ (by omega), b0 1 (by decide), c2]
    · rw [m3' 50 8 5 rfl (by decide), hJ _ _ (by omega), b0 2 (by decide), c9]
    · rw [m3' 51 (9 * k + f) _ (ix51 (by omega)) (by omega), hJ _ _ (by omega)]
      have e1 : fa X (36 + 5 * i) f k = X (37 + 5 * i) (7 * f + k) := by rw [fa_at ⟨r1, r2⟩, show 36 + 5 * i + 1 = 37 + 5 * i by omega]
      rw [← e1, hfa, c1, fm_at ⟨r1, r2⟩]
    · rw [m3' 52 k _ (ix52 hk) (by omega), hJ _ _ (by omega), b3 k hk]; exact (c4 k hk).1.symm
    · rw [m3' 53 k _ (ix53 hk) (by omega), hJ _ _ (by omega), b4 k hk]; exact (c4 k hk).2.symm
  · refine (h.2.2.2.2.2.2.2 i hi).keep hi (by rw [q2, if_neg e]) (hX 66 i (by decide) (by omega) (by omega) (by omega)) (fun a k r => ?_) (Int.le_refl _)
    rcases r with r | r
    · exact hX a k (by omega) (by omega) (by omega) (by omega)
    · rw [r.1, m4 k (by omega)]; exact hJ 65 k (by omega)
theorem Rel.restore {K : List Nat} {N : NN} {I X : MM} {n d s j n' s' : Nat} {P : Int} (h : Rel K N I n d s P) (hP : P ≤ 1000000) (hi : IMe I j n' s' P) (hj : j < 2) (hm : reM (cpR I (36 + 5 * j) 1) X j) : Rel K N X n' d s' P := by
  obtain ⟨m1, m2⟩ := hm
  obtain ⟨i1, i2, ⟨i3, i4, i5⟩, ⟨g0, g1, g2, g3, g4, g5⟩, i6, i7⟩ := hi
  have hJ : ∀ a k, a = 0 ∨ 5 < a → cpR I (36 + 5 * j) 1 a k = I a k := fun a k q => cp_o (by omega)
  have hX : ∀ a k, 5 < a → (a ≠ 50 ∧ a ≠ 51 ∧ a ≠ 52 ∧ a ≠ 53 ∨ (a = 50 ∧ k = 10)) → X a k = I a k := fun a k q1 q2 => (m1 a k (ix_o q2) (by omega)).trans (hJ a k (by omega))
  have hc : ∀ a k, a ≤ 5 → X a k = cpR I (36 + 5 * j) 1 a k := fun a k q => m1 a k (ix_o (by omega)) (by omega)
  have m2' : ∀ a k i, ixI a k = i → i < 85 → X a k = I 65 (100 * j + i) := fun a k i r1 r2 => by
    rw [m2 a k (by omega), r1]; exact hJ 65 _ (by omega)
  obtain ⟨c1, c2, c3, c4, ⟨c6, c7, c8⟩, c9⟩ := h.2.2.2.1
  obtain ⟨⟨p1, p2, p3⟩, p4⟩ := h.2.2.2.2.2.1
  have x0 : ∀ k, k < 3 → X 1 k = I (36 + 5 * j) k := fun k hk => by rw [hc _ _ (by decide), cp_0 hk]
  have x2 : ∀ k, k < 3 → X 3 k = I (38 + 5 * j) k := fun k hk => by
    rw [hc _ _ (by decide), show (3 : Nat) = 1 + 2 from rfl, cp_2 hk, show 36 + 5 * j + 2 = 38 + 5 * j by omega]
  have x3 : ∀ k, k < 8 → X 4 k = I (39 + 5 * j) k := fun k hk => by
    rw [hc _ _ (by decide), show (4 : Nat) = 1 + 3 from rfl, cp_3 hk, show 36 + 5 * j + 3 = 39 + 5 * j by omega]
  have x4 : ∀ k, k < 8 → X 5 k = I (40 + 5 * j) k := fun k hk => by
    rw [hc _ _ (by decide), show (5 : Nat) = 1 + 4 from rfl, cp_4 hk, show 36 + 5 * j + 4 = 40 + 5 * j by omega]
  have hfa : fa X 1 = fa I (36 + 5 * j) := (fa_eq (b := 1) (fun k => hc 2 k (by decide))).trans fa_cp
  have hfm : fm X = fa I (36 + 5 * j) := by
    funext f k
    by_cases q : f < 9 ∧ k < 7
    · rw [fm_at q, fa_at q, m2' 51 (9 * k + f) _ (ix51 (by omega)) (by omega), i6 f k q.1 q.2, show 36 + 5 * j + 1 = 37 + 5 * j by omega]
    · unfold fm fa; rw [if_neg q, if_neg q]
  have w2 : X 50 2 = I (38 + 5 * j) 0 := (m2' 50 2 1 rfl (by decide)).trans g1
  have w3 : X 50 3 = I (38 + 5 * j) 1 := (m2' 50 3 2 rfl (by decide)).trans g2
  have w4 : X 50 4 = I (38 + 5 * j) 2 := (m2' 50 4 3 rfl (by decide)).trans g3
  have hOk : okD (fa I (36 + 5 * j)) n' P := i1.okD i2
  refine Rel.lives h.1 ⟨i1.2.1, i1.2.2.1⟩ ((m2' 50 0 0 rfl (by decide)).trans (g0.trans i1.1)) ((x0 0 (by decide)).trans i1.1) (by rw [hfm]; exact hOk) hP ?_ ⟨by rw [hfa, hfm], ?_, ?_, fun k hk => ⟨?_, ?_⟩, ⟨?_, ?_, ?_⟩, ?_⟩ ⟨?_, i4, fun k hk => ?_⟩ ⟨⟨?_, p2, fun k hk => ?_⟩, ?_⟩ (h.ims (fun a k q => hX a k (by omega) (by omega)) (Int.le_refl _))
  · rw [w2, w3, w4]
    have := i1.2.2.2.2
    rw [show 36 + 5 * j + 2 = 38 + 5 * j by omega] at this
    exact this
  · rw [x0 1 (by decide), m2' 50 5 4 rfl (by decide)]; exact g4.symm
  · funext k
    rw [hX 19 k (by decide) (by omega), hX 54 k (by decide) (by omega), c3]
  · rw [x3 k hk, m2' 52 k _ (ix52 hk) (by omega)]; exact (i7 k hk).1.symm
  · rw [x4 k hk, m2' 53 k _ (ix53 hk) (by omega)]; exact (i7 k hk).2.symm
  · rw [x2 0 (by decide), w2]
  · rw [x2 1 (by decide), w3]
  · rw [x2 2 (by decide), w4]
  · rw [x0 2 (by decide), m2' 50 8 5 rfl (by decide)]; exact g5.symm
  · rw [x0 2 (by decide)]; exact i3
  · rw [x3 k (by omega), x4 k (by omega)]; exact i5 k hk
  · rw [hX 18 1 (by decide) (by omega)]; exact p1
  · rw [hX 19 k (by decide) (by omega)]; exact p3 k hk
  · rw [hX 50 10 (by decide) (by omega)]; exact p4
theorem Rel.b66 {K : List Nat} {N : NN} {I : MM} {n d s : Nat} {P : Int} (h : Rel K N I n d s P) : ∀ i, i < 2 → I 66 i = 0 ∨ I 66 i = 1 := fun i hi => by
  rcases h.2.2.2.2.2.2.2 i hi with q | q
  · exact Or.inl q.2
  · exact Or.inr q.2.1

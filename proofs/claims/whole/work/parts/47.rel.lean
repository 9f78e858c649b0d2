/-! ===== the class and the reference, side by side ===== -/
theorem l0_RM {I : MM} (h0 : I 3 0 = I 50 2) (h1 : I 3 1 = I 50 3) (h2 : I 3 2 = I 50 4) : l0R I 1 = l0M I := by
  funext kn; unfold l0R l0M; rw [← h0, ← h1, ← h2]
/-- the same numbers on both sides -/
def CQ (I : MM) : Prop := fa I 1 = fm I ∧ I 1 1 = I 50 5 ∧ I 19 = I 54 ∧ (∀ k, k < 8 → I 4 k = I 52 k ∧ I 5 k = I 53 k) ∧ (I 3 0 = I 50 2 ∧ I 3 1 = I 50 3 ∧ I 3 2 = I 50 4) ∧ I 1 2 = I 50 8
theorem CQ.l0 {I : MM} (h : CQ I) : l0R I 1 = l0M I := l0_RM h.2.2.2.2.1.1 h.2.2.2.2.1.2.1 h.2.2.2.2.1.2.2
/-- an image that is kept, on both sides -/
def IMe (I : MM) (j n s : Nat) (P : Int) : Prop := RB I (36 + 5 * j) n ∧ (∀ f, f < n → fa I (36 + 5 * j) f 6 ≤ P) ∧ (I (36 + 5 * j) 2 = (s : Int) ∧ s ≤ 8 ∧ ∀ i, i < s → (0 ≤ I (39 + 5 * j) i ∧ I (39 + 5 * j) i < n) ∧ (0 ≤ I (40 + 5 * j) i ∧ I (40 + 5 * j) i ≤ 9)) ∧ (I 65 (100 * j + 0) = I (36 + 5 * j) 0 ∧ I 65 (100 * j + 1) = I (38 + 5 * j) 0 ∧ I 65 (100 * j + 2) = I (38 + 5 * j) 1 ∧ I 65 (100 * j + 3) = I (38 + 5 * j) 2 ∧ I 65 (100 * j + 4) = I (36 + 5 * j) 1 ∧ I 65 (100 * j + 5) = I (36 + 5 * j) 2) ∧ (∀ f k, f < 9 → k < 7 → I 65 (100 * j + (6 + (9 * k + f))) = I (37 + 5 * j) (7 * f + k)) ∧ ∀ k, k < 8 → I 65 (100 * j + (69 + 2 * k)) = I (39 + 5 * j) k ∧ I 65 (100 * j + (70 + 2 * k)) = I (40 + 5 * j) k
def ImR (I : MM) (N : NN) (j : Nat) (P : Int) : Prop := (N 11 j = true ∧ I 66 j = 0) ∨ (N 11 j = false ∧ I 66 j = 1 ∧ ∃ n s, IMe I j n s P)
def Rel (K : List Nat) (N : NN) (I : MM) (n d s : Nat) (P : Int) : Prop := (NS N ∧ KN K N) ∧ RB I 1 n ∧ RM I n ∧ CQ I ∧ SG I n s ∧ (PB I d ∧ I 50 10 = (d : Int)) ∧ (∀ f, f < n → fm I f 6 ≤ P) ∧ ∀ j, j < 2 → ImR I N j P
/-- what the two sides rest on -/
def rcl (a k : Nat) : Prop := (1 ≤ a ∧ a ≤ 5) ∨ a = 19 ∨ (a = 18 ∧ k = 1) ∨ (36 ≤ a ∧ a ≤ 45) ∨ (a = 50 ∧ (k = 0 ∨ k = 2 ∨ k = 3 ∨ k = 4 ∨ k = 5 ∨ k = 8 ∨ k = 10)) ∨ (51 ≤ a ∧ a ≤ 54) ∨ 65 ≤ a
theorem IMe.keep {I J : MM} {j n s : Nat} {P : Int} (h : IMe I j n s P) (hj : j < 2) (hk : ∀ a k, (36 + 5 * j ≤ a ∧ a ≤ 40 + 5 * j) ∨ (a = 65 ∧ 100 * j ≤ k ∧ k < 100 * j + 85) → J a k = I a k) : IMe J j n s P := by
  obtain ⟨h1, h2, ⟨h3, h4, h5⟩, ⟨g0, g1, g2, g3, g4, g5⟩, h6, h7⟩ := h
  have hf : fa J (36 + 5 * j) = fa I (36 + 5 * j) := fa_eq (fun k => hk _ k (by omega))
  refine ⟨h1.of (hk _ _ (by omega)) hf (fun k _ => hk _ k (by omega)), by rw [hf]; exact h2, ⟨by rw [hk _ _ (by omega)]; exact h3, h4, fun i hi => ?_⟩, ⟨?_, ?_, ?_, ?_, ?_, ?_⟩, fun f k q1 q2 => ?_, fun k q1 => ⟨?_, ?_⟩⟩
  · rw [hk _ _ (by omega), hk _ _ (by omega)]; exact h5 i hi
  · rw [hk _ _ (by omega), hk _ _ (by omega)]; exact g0
  · rw [hk _ _ (by omega), hk _ _ (by omega)]; exact g1
  · rw [hk _ _ (by omega), hk _ _ (by omega)]; exact g2
  · rw [hk _ _ (by omega), hk _ _ (by omega)]; exact g3
  · rw [hk _ _ (by omega), hk _ _ (by omega)]; exact g4
  · rw [hk _ _ (by omega), hk _ _ (by omega)]; exact g5
  · rw [hk _ _ (by omega), hk _ _ (by omega)]; exact h6 f k q1 q2
  · rw [hk _ _ (by omega), hk _ _ (by omega)]; exact (h7 k q1).1
  · rw [hk _ _ (by omega), hk _ _ (by omega)]; exact (h7 k q1).2
theorem IMe.mono {I : MM} {j n s : Nat} {P Q : Int} (h : IMe I j n s P) (hq : P ≤ Q) : IMe I j n s Q := ⟨h.1, fun f hf => Int.le_trans (h.2.1 f hf) hq, h.2.2⟩
theorem ImR.keep {I J : MM} {N N' : NN} {j : Nat} {P Q : Int} (h : ImR I N j P) (hj : j < 2) (hN : N' 11 j = N 11 j) (h66 : J 66 j = I 66 j) (hk : ∀ a k, (36 + 5 * j ≤ a ∧ a ≤ 40 + 5 * j) ∨ (a = 65 ∧ 100 * j ≤ k ∧ k < 100 * j + 85) → J a k = I a k) (hq : P ≤ Q) : ImR J N' j Q := by
  rcases h with ⟨h1, h2⟩ | ⟨h1, h2, n, s, h3⟩
  · exact Or.inl ⟨hN.trans h1, h66.trans h2⟩
  · exact Or.inr ⟨hN.trans h1, h66.trans h2, n, s, (h3.keep hj hk).mono hq⟩
theorem Rel.mono {K : List Nat} {N : NN} {I : MM} {n d s : Nat} {P Q : Int} (h : Rel K N I n d s P) (hq : P ≤ Q) : Rel K N I n d s Q := by
  obtain ⟨h1, h2, h3, h4, h5, h6, h7, h8⟩ := h
  exact ⟨h1, h2, h3, h4, h5, h6, fun f hf => Int.le_trans (h7 f hf) hq, fun j hj => (h8 j hj).keep hj rfl rfl (fun _ _ _ => rfl) hq⟩
theorem Rel.keep {K : List Nat} {N : NN} {I J : MM} {n d s : Nat} {P : Int} (h : Rel K N I n d s P) (hk : ∀ a k, rcl a k → J a k = I a k) : Rel K N J n d s P := by
  obtain ⟨h1, h2, h3, ⟨c1, c2, c3, c4, ⟨c6, c7, c8⟩, c9⟩, ⟨s1, s2, s3⟩, ⟨⟨p1, p2, p3⟩, p4⟩, h7, h8⟩ := h
  have k' : ∀ a, ((2 ≤ a ∧ a ≤ 5) ∨ a = 19 ∨ (51 ≤ a ∧ a ≤ 54)) → J a = I a := fun a ha => by funext k; exact hk a k (by unfold rcl; omega)
  have hf : fa J 1 = fa I 1 := fa_eq (fun k => hk _ k (by unfold rcl; omega))
  have hm : fm J = fm I := fm_eq (fun k => hk _ k (by unfold rcl; omega))
  refine ⟨h1, h2.of (hk _ _ (by unfold rcl; omega)) hf (fun k _ => hk _ k (by unfold rcl; omega)), h3.of (hk _ _ (by unfold rcl; omega)) hm (hk _ _ (by unfold rcl; omega)) (hk _ _ (by unfold rcl; omega)) (hk _ _ (by unfold rcl; omega)), ⟨?_, ?_, ?_, fun k hk8 => ?_, ⟨?_, ?_, ?_⟩, ?_⟩, ⟨?_, s2, fun j hj => ?_⟩, ⟨⟨?_, p2, fun j hj => ?_⟩, ?_⟩, ?_, fun j hj => ?_⟩
  · rw [hf, hm]; exact c1
  · rw [hk _ _ (by unfold rcl; omega), hk _ _ (by unfold rcl; omega)]; exact c2
  · rw [k' _ (by omega), k' _ (by omega)]; exact c3
  · rw [k' _ (by omega), k' _ (by omega), k' _ (by omega), k' _ (by omega)]; exact c4 k hk8
  · rw [hk _ _ (by unfold rcl; omega), hk _ _ (by unfold rcl; omega)]; exact c6
  · rw [hk _ _ (by unfold rcl; omega), hk _ _ (by unfold rcl; omega)]; exact c7
  · rw [hk _ _ (by unfold rcl; omega), hk _ _ (by unfold rcl; omega)]; exact c8
  · rw [hk _ _ (by unfold rcl; omega), hk _ _ (by unfold rcl; omega)]; exact c9
  · rw [hk _ _ (by unfold rcl; omega)]; exact s1
  · rw [hk _ _ (by unfold rcl; omega), hk _ _ (by unfold rcl; omega)]; exact s3 j hj
  · rw [hk _ _ (by unfold rcl; omega)]; exact p1
  · rw [hk _ _ (by unfold rcl; omega)]; exact p3 j hj
  · rw [hk _ _ (by unfold rcl; omega)]; exact p4
  · rw [hm]; exact h7
  · exact (h8 j hj).keep hj rfl (hk _ _ (by unfold rcl; omega)) (fun a k q => hk a k (by unfold rcl; omega)) (Int.le_refl _)
theorem kp_both {I J J2 : MM} (h : kpC I J) (h2 : kpM J J2) : ∀ a k, rcl a k → J2 a k = I a k := fun a k q => (h2 a k (by unfold rcl at q; unfold pcm; omega)).trans (h a k (by unfold rcl at q; unfold pcl; omega))
theorem Rel.both {K : List Nat} {N : NN} {I J J2 : MM} {n d s : Nat} {P : Int} (h : Rel K N I n d s P) (h1 : kpC I J) (h2 : kpM J J2) : Rel K N J2 n d s P := h.keep (kp_both h1 h2)
/-- behind a call of the class that only asks: the reference's side stands -/
theorem Rel.mid {K : List Nat} {N : NN} {I J : MM} {n d s : Nat} {P : Int} (h : Rel K N I n d s P) (h1 : kpC I J) : Rel K N J n d s P := h.keep (fun a k q => h1 a k (by unfold rcl at q; unfold pcl; omega))
theorem Rel.SM {K : List Nat} {N : NN} {I : MM} {n d s : Nat} {P : Int} (h : Rel K N I n d s P) : SM I n s := by
  obtain ⟨-, -, -, ⟨-, -, -, c4, -, c9⟩, ⟨s1, s2, s3⟩, -⟩ := h
  exact ⟨by rw [← c9]; exact s1, s2, fun j hj => by rw [← (c4 j (by omega)).1, ← (c4 j (by omega)).2]; exact s3 j hj⟩
theorem Rel.PM {K : List Nat} {N : NN} {I : MM} {n d s : Nat} {P : Int} (h : Rel K N I n d s P) : PM I d := by
  obtain ⟨-, -, -, ⟨-, -, c3, -⟩, -, ⟨⟨p1, p2, p3⟩, p4⟩, -⟩ := h
  exact ⟨p4, p2, fun j hj => by rw [← c3]; exact p3 j hj⟩
theorem Rel.PC {K : List Nat} {N : NN} {I : MM} {n d s : Nat} {P : Int} (h : Rel K N I n d s P) (hP : P ≤ 990000) : ∀ f, f < n → fa I 1 f 6 ≤ 990000 := fun f hf => by
  rw [h.2.2.2.1.1]; exact Int.le_trans (h.2.2.2.2.2.2.1 f hf) hP
theorem Rel.PR {K : List Nat} {N : NN} {I : MM} {n d s : Nat} {P : Int} (h : Rel K N I n d s P) (hP : P ≤ 990000) : ∀ f, f < n → fm I f 6 ≤ 990000 := fun f hf => Int.le_trans (h.2.2.2.2.2.2.1 f hf) hP
theorem kpC.m {I J : MM} (h : kpC I J) : ∀ a k, 36 ≤ a → J a k = I a k := fun a k q => h a k (by unfold pcl; omega)
theorem kpC.fm {I J : MM} (h : kpC I J) : fm J = fm I := fm_eq (fun k => h.m 51 k (by omega))
theorem kpC.l0M {I J : MM} (h : kpC I J) : l0M J = l0M I := by funext kn; exact l0M_eq (h.m 50 2 (by omega)) (h.m 50 3 (by omega)) (h.m 50 4 (by omega))
theorem kpC.fn {I J : MM} (h : kpC I J) {a : Nat} (ha : 36 ≤ a) : J a = I a := by funext k; exact h.m a k ha
theorem DA.M {I : MM} (c : CQ I) {n d k : Nat} {z0 : Int} {j : Nat} (h : DA I n d k z0 j) : DM I n d k z0 j ∧ daR I n d = dmR I n d := by
  have e : daR I n d = dmR I n d := by unfold daR dmR; rw [c.1, c.l0, c.2.1, c.2.2.1]
  refine ⟨⟨by rw [← c.2.2.1]; exact h.1, fun z => ?_⟩, e⟩
  rw [← e, ← c.2.2.1]; exact h.2 z
theorem DM.uniq {I : MM} {n d k k2 : Nat} {z z2 : Int} {j j2 : Nat} (h : DM I n d k z j) (h2 : DM I n d k2 z2 j2) : k = k2 ∧ z = z2 ∧ (z = -6 → j = j2) := by
  obtain ⟨rfl, rfl⟩ := h.1.uniq h2.1
  exact ⟨rfl, rfl, fun e => (h.2 e).uniq (h2.2 e)⟩
theorem dm_k {I J : MM} (h : kpC I J) {n d : Nat} : dmR J n d = dmR I n d := by
  unfold dmR; rw [h.fm, h.l0M, h.m 50 5 (by omega), h.fn (a := 54) (by omega)]
theorem DM.k {I J : MM} (h : kpC I J) {n d k : Nat} {z0 : Int} {j : Nat} (hd : DM J n d k z0 j) : DM I n d k z0 j := by
  have e := dm_k h (n := n) (d := d)
  have e2 : J 54 = I 54 := h.fn (by omega)
  refine ⟨by rw [← e2]; exact hd.1, fun z => ?_⟩
  rw [← e, ← e2]; exact hd.2 z
theorem rv_eq {I : MM} {n d k k2 : Nat} {z0 z2 : Int} {j j2 : Nat} (h : DM I n d k z0 j) (h2 : DM I n d k2 z2 j2) {X : Nat → Nat → Int} : (if rvV z0 k j ≠ 0 then rvV z0 k j else X k j) = (if rvV z2 k2 j2 ≠ 0 then rvV z2 k2 j2 else X k2 j2) := by
  obtain ⟨rfl, rfl, h3⟩ := h.uniq h2
  by_cases z : z0 = -6
  · rw [h3 z]
  · rw [show rvV z0 k j = -5 from if_pos z, show rvV z0 k j2 = -5 from if_pos z, if_pos (by decide), if_pos (by decide)]
theorem jm_eq {I : MM} {n d k k2 : Nat} {z0 z2 w : Int} {j j2 : Nat} (h : DM I n d k z0 j) (h2 : DM I n d k2 z2 j2) : jmV I n d w k z0 j = jmV I n d w k2 z2 j2 := by
  obtain ⟨rfl, rfl, h3⟩ := h.uniq h2
  by_cases z : z0 = -6
  · rw [h3 z]
  · unfold jmV; rw [if_pos z, if_pos z]
theorem jg_jm {I : MM} (c : CQ I) {n d k : Nat} {z0 w : Int} {j : Nat} : jgV I n d w k z0 j = jmV I n d w k z0 j := by
  have e : daR I n d = dmR I n d := by unfold daR dmR; rw [c.1, c.l0, c.2.1, c.2.2.1]
  unfold jgV jmV rwV wmV
  rw [e, c.2.2.1]
theorem jm_k {I J : MM} (h : kpC I J) {n d k : Nat} {z0 w : Int} {j : Nat} : jmV J n d w k z0 j = jmV I n d w k z0 j := by
  unfold jmV wmV; rw [dm_k h, h.fn (a := 54) (by omega)]
theorem sgB_c {T a b a' b' : Nat → Int} : ∀ s : Nat, (∀ j, j < s → a j = a' j ∧ b j = b' j) → sgB T a b s = sgB T a' b' s
  | 0, _ => rfl
  | s + 1, h => by
    have ih := sgB_c (T := T) s (fun j hj => h j (by omega))
    show (sgB T a b s && decide (T (a s).toNat = b s)) = (sgB T a' b' s && decide (T (a' s).toNat = b' s))
    rw [ih, (h s (by omega)).1, (h s (by omega)).2]
theorem lkP_c {F : FT} {l0 : Int} {a b a' b' : Nat → Int} {s : Nat} (h : ∀ j, j < s → a j = a' j ∧ b j = b' j) : lkP F l0 a b s = lkP F l0 a' b' s := by
  funext f k; unfold lkP; rw [sgB_c s h]
theorem lkA_c {F : FT} {l0 : Int} {a b a' b' : Nat → Int} {s n : Nat} (h : ∀ j, j < s → a j = a' j ∧ b j = b' j) : lkA F l0 a b s n = lkA F l0 a' b' s n := by
  unfold lkA; rw [lkP_c h]
theorem boA_c {F : FT} {l0 : Int} {a b a' b' : Nat → Int} {s n : Nat} (h : ∀ j, j < s → a j = a' j ∧ b j = b' j) : boA F l0 a b s n = boA F l0 a' b' s n := by
  unfold boA
  congr 1
  funext f
  congr 1
  funext k
  exact sgB_c s h
theorem liA_c {F : FT} {l0 : Int} {a b a' b' : Nat → Int} {s n : Nat} {w : Int} (h : ∀ j, j < s → a j = a' j ∧ b j = b' j) : liA F l0 a b s n w = liA F l0 a' b' s n w := by
  unfold liA lkY; rw [lkA_c h, lkP_c h]
theorem CQ.s {I : MM} (c : CQ I) {n s : Nat} (hG : SG I n s) : ∀ j, j < s → I 4 j = I 52 j ∧ I 5 j = I 53 j := fun j hj => c.2.2.2.1 j (by have := hG.2.1; omega)
/-! what the calls that change it come to -/
theorem fst_b {F : FT} {n : Nat} {P : Int} (hn : n ≤ 9) (hP : 0 ≤ P) (hF : F = fun f k => if f < 9 ∧ k < 7 then fst7 k else 0) : okD F n P := fun f hf => by
  rw [hF]
  have e : ∀ k, k < 7 → (fun f k => if f < 9 ∧ k < 7 then fst7 k else 0 : FT) f k = fst7 k := fun k hk => if_pos ⟨by omega, hk⟩
  rw [e 0 (by decide), e 1 (by decide), e 2 (by decide), e 3 (by decide), e 4 (by decide), e 5 (by decide), e 6 (by decide)]
  simp [fst7]
  omega
theorem rb_mk {I : MM} {b n : Nat} (h0 : I b 0 = (n : Int)) (h1 : 1 ≤ n) (h9 : n ≤ 9) (hO : okD (fa I b) n 1000000) (hr : (0 ≤ I (b + 2) 0 ∧ I (b + 2) 0 ≤ 99) ∧ (0 ≤ I (b + 2) 1 ∧ I (b + 2) 1 ≤ 50) ∧ (0 ≤ I (b + 2) 2 ∧ I (b + 2) 2 ≤ 50)) : RB I b n := ⟨h0, h1, h9, hO, hr.1, hr.2.1, hr.2.2⟩
theorem Rel.lives {K : List Nat} {N : NN} {J : MM} {n d s : Nat} {P : Int} (h1 : NS N ∧ KN K N) (hn : 1 ≤ n ∧ n ≤ 9) (h0 : J 50 0 = (n : Int)) (h10 : J 1 0 = (n : Int)) (hO : okD (fm J) n P) (hP : P ≤ 1000000) (hr : (0 ≤ J 50 2 ∧ J 50 2 ≤ 99) ∧ (0 ≤ J 50 3 ∧ J 50 3 ≤ 50) ∧ (0 ≤ J 50 4 ∧ J 50 4 ≤ 50)) (hc : CQ J) (hG : SG J n s) (hp : PB J d ∧ J 50 10 = (d : Int)) (hi : ∀ j, j < 2 → ImR J N j P) : Rel K N J n d s P := by
  have hO6 := hO.mono hP
  refine ⟨h1, rb_mk h10 hn.1 hn.2 (by rw [hc.1]; exact hO6) ?_, ⟨h0, hn.1, hn.2, hO6, hr.1, hr.2.1, hr.2.2⟩, hc, hG, hp, fun f hf => (hO f hf).2.2.2.2.2.2.2, hi⟩
  show (0 ≤ J 3 0 ∧ J 3 0 ≤ 99) ∧ (0 ≤ J 3 1 ∧ J 3 1 ≤ 50) ∧ (0 ≤ J 3 2 ∧ J 3 2 ≤ 50)
  obtain ⟨-, -, -, -, ⟨c6, c7, c8⟩, -⟩ := hc
  rw [c6, c7, c8]; exact hr
theorem Rel.okP {K : List Nat} {N : NN} {I : MM} {n d s : Nat} {P : Int} (h : Rel K N I n d s P) : okD (fm I) n P := h.2.2.1.okP h.2.2.2.2.2.2.1
theorem Rel.rates {K : List Nat} {N : NN} {I : MM} {n d s : Nat} {P : Int} (h : Rel K N I n d s P) : (0 ≤ I 50 2 ∧ I 50 2 ≤ 99) ∧ (0 ≤ I 50 3 ∧ I 50 3 ≤ 50) ∧ (0 ≤ I 50 4 ∧ I 50 4 ≤ 50) := h.2.2.1.2.2.2.2

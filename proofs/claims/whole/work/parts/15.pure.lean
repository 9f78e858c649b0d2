/-! ===== what rows mean: facts as a function, what stays ===== -/
def setF (F : Nat → Nat → Int) (f k : Nat) (v : Int) : Nat → Nat → Int := fun g j => if g = f ∧ j = k then v else F g j
theorem fa_put {I : MM} {b f k : Nat} {v : Int} (h : f < 9 ∧ k < 7) : fa (up I (b + 1) (7 * f + k) v) b = setF (fa I b) f k v := by
  funext g j
  simp only [fa, setF, up]
  by_cases h1 : g < 9 ∧ j < 7
  · rw [if_pos h1, if_pos h1]
    by_cases h2 : g = f ∧ j = k
    · obtain ⟨rfl, rfl⟩ := h2
      simp
    · rw [if_neg h2, if_neg (by omega)]
  · rw [if_neg h1, if_neg h1, if_neg (by omega)]
theorem fa_eq {I J : MM} {b : Nat} (h : ∀ j, J (b + 1) j = I (b + 1) j) : fa J b = fa I b := by
  funext f k; exact fa_congr h
theorem fa_cp {I : MM} {s d : Nat} : fa (cpR I s d) d = fa I s := by
  funext f k
  unfold fa
  by_cases h : f < 9 ∧ k < 7
  · rw [if_pos h, if_pos h]
    unfold cpR
    rw [if_neg (by omega), if_pos (by omega)]
  · rw [if_neg h, if_neg h]
theorem l0_eq {I J : MM} {b : Nat} {kn : Int} (h : ∀ j, J (b + 2) j = I (b + 2) j) : l0R J b kn = l0R I b kn := by unfold l0R; rw [h, h, h]
theorem l0_cp {I : MM} {s d : Nat} {kn : Int} : l0R (cpR I s d) d kn = l0R I s kn := by
  have e : ∀ j, j < 3 → cpR I s d (d + 2) j = I (s + 2) j := fun j hj => by unfold cpR; rw [if_neg (by omega), if_neg (by omega), if_pos (by omega)]
  unfold l0R; rw [e 0 (by omega), e 1 (by omega), e 2 (by omega)]
theorem RB.of {I J : MM} {b c n : Nat} (h : RB I b n) (h0 : J c 0 = I b 0) (hf : fa J c = fa I b) (hr : ∀ j, j < 3 → J (c + 2) j = I (b + 2) j) : RB J c n := by
  unfold RB at *
  rw [h0, hf, hr 0 (by omega), hr 1 (by omega), hr 2 (by omega)]
  exact h
theorem RB.cp {I : MM} {s d n : Nat} (h : RB I s n) : RB (cpR I s d) d n := h.of (by unfold cpR; rw [if_pos (by omega)]) fa_cp (fun j hj => by unfold cpR; rw [if_neg (by omega), if_neg (by omega), if_pos (by omega)])
def okF (k : Nat) (v : Int) : Prop := 0 ≤ v ∧ (k = 0 → v ≤ 50) ∧ (k = 1 → v ≤ 9) ∧ (k = 2 → v ≤ 99) ∧ (k = 3 → v ≤ 1) ∧ (k = 4 → v ≤ 1) ∧ (k = 5 → v ≤ 9) ∧ (k = 6 → v ≤ 1000000)
theorem RB.put {I : MM} {b n f k : Nat} {v : Int} (h : RB I b n) (hf : f < 9 ∧ k < 7) (hv : okF k v) : RB (up I (b + 1) (7 * f + k) v) b n := by
  obtain ⟨h1, h2, h3, h4, h5, h6, h7⟩ := h
  obtain ⟨v0, w0, w1, w2, w3, w4, w5, w6⟩ := hv
  refine ⟨by rw [up_n1 (by omega)]; exact h1, h2, h3, fun g hg => ?_, by rw [up_n1 (by omega)]; exact h5, by rw [up_n1 (by omega)]; exact h6, by rw [up_n1 (by omega)]; exact h7⟩
  rw [fa_put hf]
  have := h4 g hg
  unfold setF
  by_cases hgf : g = f
  · subst hgf
    obtain ⟨a0, a1, a2, a3, a4, a5, a6⟩ := this
    refine ⟨?_, ?_, ?_, ?_, ?_, ?_, ?_⟩ <;> (split <;> omega)
  · simp only [hgf, false_and, if_false]
    exact this
theorem okF_at {I : MM} {b n f k : Nat} (h : RB I b n) (hf : f < n) (hk : k < 7) : okF k (fa I b f k) := by
  have := h.2.2.2.1 f hf
  unfold okF
  rcases (by omega : k = 0 ∨ k = 1 ∨ k = 2 ∨ k = 3 ∨ k = 4 ∨ k = 5 ∨ k = 6) with rfl | rfl | rfl | rfl | rfl | rfl | rfl <;> omega
-- what a flow leaves
theorem fw_t {I : MM} {b c n k : Nat} {kn : Int} (h : k < n) : fwJ I b c kn n (c + 1) k = tok (fa I b) kn (l0R I b kn) k := by
  unfold fwJ fwS; rw [if_neg (by omega), if_pos ⟨rfl, h⟩]
theorem fw_s {I : MM} {b c n k : Nat} {kn : Int} (h : k < n) : fwJ I b c kn n (c + 2) k = sto (fa I b) kn (l0R I b kn) k := by
  unfold fwJ fwS; rw [if_neg (by omega), if_neg (by omega), if_pos ⟨rfl, h⟩]
theorem fw_l {I : MM} {b c n : Nat} {kn : Int} : fwJ I b c kn n c 2 = lva (fa I b) kn (l0R I b kn) n := by
  unfold fwJ; rw [if_pos ⟨rfl, rfl⟩]
theorem fw_o {I : MM} {b c n a k : Nat} {kn : Int} (h : a < c ∨ c + 2 < a) : fwJ I b c kn n a k = I a k := by
  unfold fwJ fwS; rw [if_neg (by omega), if_neg (by omega), if_neg (by omega)]
theorem cp_o {I : MM} {s d a k : Nat} (h : a < d ∨ d + 4 < a) : cpR I s d a k = I a k := by
  unfold cpR; rw [if_neg (by omega), if_neg (by omega), if_neg (by omega), if_neg (by omega), if_neg (by omega)]
theorem cp_0 {I : MM} {s d k : Nat} (h : k < 3) : cpR I s d d k = I s k := by unfold cpR; rw [if_pos ⟨rfl, h⟩]
theorem cp_2 {I : MM} {s d k : Nat} (h : k < 3) : cpR I s d (d + 2) k = I (s + 2) k := by unfold cpR; rw [if_neg (by omega), if_neg (by omega), if_pos ⟨rfl, h⟩]
theorem tok_b {I : MM} {b n f : Nat} {kn : Int} (h : RB I b n) (hf : f < n) : 0 ≤ tok (fa I b) kn (l0R I b kn) f ∧ tok (fa I b) kn (l0R I b kn) f ≤ 9 := by
  have h1 := h.2.2.2.1 f hf
  have h2 := h.lv kn f (by omega)
  unfold tok tks lvs
  split <;> omega
theorem sto_b {I : MM} {b n f : Nat} {kn : Int} (h : RB I b n) (hf : f < n) : 0 ≤ sto (fa I b) kn (l0R I b kn) f ∧ sto (fa I b) kn (l0R I b kn) f ≤ 149 := by
  have h1 := h.2.2.2.1 f hf
  have h2 := h.lv kn f (by omega)
  unfold sto lvs
  omega
/-- the class's cells that calls which only ask leave as they are; and all of the reference's -/
def pcl (a k : Nat) : Prop := (1 ≤ a ∧ a ≤ 5) ∨ a = 19 ∨ (a = 18 ∧ k = 1) ∨ 36 ≤ a
def kpC (I J : MM) : Prop := ∀ a k, pcl a k → J a k = I a k
theorem kpC.rf {I : MM} : kpC I I := fun _ _ _ => rfl
theorem kpC.tr {I J J2 : MM} (h : kpC I J) (h2 : kpC J J2) : kpC I J2 := fun a k q => (h2 a k q).trans (h a k q)
theorem kpC.fw {I J : MM} {b c n : Nat} {kn : Int} (h : kpC I J) (hc : c = 12 ∨ c = 15 ∨ c = 28) : kpC I (fwJ J b c kn n) := fun a k q => by
  rw [fw_o (by unfold pcl at q; omega)]; exact h a k q
theorem kpC.cp {I J : MM} {s d : Nat} (h : kpC I J) (hd : d = 6 ∨ d = 23) : kpC I (cpR J s d) := fun a k q => by
  rw [cp_o (by unfold pcl at q; omega)]; exact h a k q
theorem kpC.upp {I J : MM} {i j : Nat} {v : Int} (h : kpC I J) (hi : ¬ pcl i j) : kpC I (up J i j v) := fun a k q => by
  simp only [up]; rw [if_neg (by rintro ⟨rfl, rfl⟩; exact hi q)]; exact h a k q
theorem kpC.upc {I J : MM} {i j : Nat} {v : Int} (h : kpC I J) (hi : i = 0 ∨ (6 ≤ i ∧ i ≤ 17) ∨ (20 ≤ i ∧ i ≤ 35)) : kpC I (up J i j v) := h.upp (by unfold pcl; omega)

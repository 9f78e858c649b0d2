/-! ===== SpringFarms: a day is lived ===== -/
abbrev FT := Nat → Nat → Int
def apF (F : FT) (f : Nat) (a : Int) : FT := if a = 4 then setF F f 4 (1 - F f 4) else if a = 5 then setF F f 0 (F f 0 - 1) else if a = 6 then setF F f 0 (F f 0 + 1) else if a = 7 then setF F f 1 (F f 1 + 1) else F
def reF (F : FT) (f : Nat) (a : Int) : Int := if a = 5 ∧ F f 0 ≤ 0 then 1 else if a = 6 ∧ 50 ≤ F f 0 then 1 else if a = 7 ∧ 9 ≤ F f 1 then 2 else 0
def keF (F : FT) (kn l0 : Int) (n : Nat) : FT := fun f k => if k = 6 ∧ f < n then F f 6 + tok F kn l0 f else F f k
def ntE (F : FT) (hc : Int) (en : Nat → Int) : Nat → Int := fun f => if en f = -6 ∧ F f 2 ≤ F f 6 then hc else en f
abbrev DT := FT × Int × Int × (Nat → Int)
def stD (l0 : Int → Int) (n : Nat) (s : DT) (a : Int) (f : Nat) : DT := if 3 < a then (apF s.1 f a, s.2.1, s.2.2.1, s.2.2.2) else (keF s.1 a (l0 a) n, s.2.1 + lva s.1 a (l0 a) n, s.2.2.1 + 1, ntE (keF s.1 a (l0 a) n) (s.2.2.1 + 1) s.2.2.2)
def daS (F0 : FT) (d0 : Int) (l0 : Int → Int) (n : Nat) (A : Nat → Int) (B : Nat → Nat) : Nat → DT
  | 0 => (F0, d0, 0, ntE F0 0 (fun _ => -6))
  | j + 1 => stD l0 n (daS F0 d0 l0 n A B j) (A j) (B j)
def okD (F : FT) (n : Nat) (P : Int) : Prop := ∀ f, f < n → (0 ≤ F f 0 ∧ F f 0 ≤ 50) ∧ (0 ≤ F f 1 ∧ F f 1 ≤ 9) ∧ (0 ≤ F f 2 ∧ F f 2 ≤ 99) ∧ (0 ≤ F f 3 ∧ F f 3 ≤ 1) ∧ (0 ≤ F f 4 ∧ F f 4 ≤ 1) ∧ (0 ≤ F f 5 ∧ F f 5 ≤ 9) ∧ (0 ≤ F f 6 ∧ F f 6 ≤ P)
theorem okD.mono {F : FT} {n : Nat} {P Q : Int} (h : okD F n P) (hq : P ≤ Q) : okD F n Q := fun f hf => by
  have := h f hf; omega
theorem okD.tokb {F : FT} {n : Nat} {P : Int} (h : okD F n P) {kn l : Int} {f : Nat} (hf : f < n) : 0 ≤ tok F kn l f ∧ tok F kn l f ≤ 9 := by
  have := h f hf
  unfold tok tks
  split <;> omega
theorem okD.ke {F : FT} {n : Nat} {P : Int} (h : okD F n P) {kn l : Int} : okD (keF F kn l n) n (P + 9) := fun f hf => by
  have h1 := h f hf
  have h2 := h.tokb (kn := kn) (l := l) hf
  unfold keF
  simp only [show ¬ ((0 : Nat) = 6) by decide, show ¬ ((1 : Nat) = 6) by decide, show ¬ ((2 : Nat) = 6) by decide, show ¬ ((3 : Nat) = 6) by decide, show ¬ ((4 : Nat) = 6) by decide, show ¬ ((5 : Nat) = 6) by decide, false_and, if_false, if_pos (show (6 : Nat) = 6 ∧ f < n from ⟨rfl, hf⟩)]
  omega
theorem okD.set {F : FT} {n : Nat} {P : Int} (h : okD F n P) {f k : Nat} {v : Int} (hk : k ≠ 6) (hv : okF k v) : okD (setF F f k v) n P := fun g hg => by
  have h1 := h g hg
  obtain ⟨v0, w0, w1, w2, w3, w4, w5, w6⟩ := hv
  unfold setF
  by_cases hgf : g = f
  · subst hgf
    refine ⟨?_, ?_, ?_, ?_, ?_, ?_, ?_⟩ <;> (split <;> omega)
  · simp only [hgf, false_and, if_false]; exact h1
theorem okD.ap {F : FT} {n : Nat} {P : Int} (h : okD F n P) {f : Nat} {a : Int} (hf : f < n) (hr : reF F f a = 0) : okD (apF F f a) n P := by
  have h1 := h f hf
  unfold reF at hr
  unfold apF
  by_cases e4 : a = 4
  · rw [if_pos e4]; exact h.set (by decide) (by unfold okF; omega)
  · rw [if_neg e4]
    by_cases e5 : a = 5
    · rw [if_pos e5]
      refine h.set (by decide) ?_
      by_cases q : F f 0 ≤ 0
      · rw [if_pos ⟨e5, q⟩] at hr; omega
      · unfold okF; omega
    · rw [if_neg e5]
      by_cases e6 : a = 6
      · rw [if_pos e6]
        refine h.set (by decide) ?_
        by_cases q : 50 ≤ F f 0
        · rw [if_neg (by omega), if_pos ⟨e6, q⟩] at hr; omega
        · unfold okF; omega
      · rw [if_neg e6]
        by_cases e7 : a = 7
        · rw [if_pos e7]
          refine h.set (by decide) ?_
          by_cases q : 9 ≤ F f 1
          · rw [if_neg (by omega), if_neg (by omega), if_pos ⟨e7, q⟩] at hr; omega
          · unfold okF; omega
        · rw [if_neg e7]; exact h
theorem RB.okD {I : MM} {b n : Nat} (h : RB I b n) {P : Int} (hP : ∀ f, f < n → fa I b f 6 ≤ P) : okD (fa I b) n P := fun f hf => by
  have h1 := h.2.2.2.1 f hf
  have h2 := hP f hf
  omega
theorem okD.RB {I J : MM} {b c n : Nat} {F : FT} (hB : RB I b n) (h : okD F n 1000000) (hF : fa J c = F) (h0 : J c 0 = (n : Int)) (hr : ∀ k, k < 3 → J (c + 2) k = I (b + 2) k) : RB J c n := by
  obtain ⟨a1, a2, a3, a4, a5, a6, a7⟩ := hB
  refine ⟨h0, a2, a3, by rw [hF]; exact h, ?_, ?_, ?_⟩
  · rw [hr 0 (by decide)]; exact a5
  · rw [hr 1 (by decide)]; exact a6
  · rw [hr 2 (by decide)]; exact a7
theorem l0_of {I J : MM} {b c : Nat} {kn : Int} (hr : ∀ k, k < 3 → J (c + 2) k = I (b + 2) k) : l0R J c kn = l0R I b kn := by
  unfold l0R; rw [hr 0 (by decide), hr 1 (by decide), hr 2 (by decide)]
theorem fa_ap {I : MM} {b f : Nat} {a : Int} (hf : f < 9) : fa (apJ I b f a) b = apF (fa I b) f a := by
  unfold apJ apF
  (repeat' split) <;> first | rfl | exact fa_put ⟨hf, by decide⟩
theorem ap_o {I : MM} {b f c k : Nat} {a : Int} (h : c ≠ b + 1) : apJ I b f a c k = I c k := by
  unfold apJ
  (repeat' split) <;> first | rfl | exact up_n1 h
theorem fa_ke {I : MM} {b c n : Nat} (hn : n ≤ 9) : fa (keJ I b c n) b = fun f k => if k = 6 ∧ f < n then fa I b f 6 + I (c + 1) f else fa I b f k := by
  funext f k
  by_cases h : f < 9 ∧ k < 7
  · rw [fa_at h]
    simp only [keJ]
    rw [if_neg (by omega)]
    by_cases e : k = 6 ∧ f < n
    · obtain ⟨rfl, e⟩ := e
      rw [if_pos (show True ∧ (7 * f + 6) % 7 = 6 ∧ (7 * f + 6) / 7 < n from ⟨trivial, by omega, by omega⟩), if_pos ⟨rfl, e⟩, fa_at h, show (7 * f + 6) / 7 = f by omega]
    · rw [if_neg (by omega), if_neg e, fa_at h]
  · rw [if_neg (by omega)]
    unfold fa; rw [if_neg h, if_neg h]
theorem ke_o {I : MM} {b c n a k : Nat} (h : a ≠ b + 1) (h2 : a ≠ b ∨ k ≠ 1) : keJ I b c n a k = I a k := by
  unfold keJ; rw [if_neg (by omega), if_neg (by omega)]
theorem ke_1 {I : MM} {b c n : Nat} : keJ I b c n b 1 = I b 1 + I c 2 := by unfold keJ; rw [if_pos ⟨rfl, rfl⟩]
def ntJ (I : MM) (n : Nat) : MM := fun a k => if a = 31 ∧ k < n ∧ I 31 k = -6 ∧ fa I 23 k 2 ≤ fa I 23 k 6 then I 22 5 else I a k
theorem nt_o {I : MM} {n a k : Nat} (h : a ≠ 31) : ntJ I n a k = I a k := by unfold ntJ; rw [if_neg (by omega)]
theorem nt_e {I : MM} {n k : Nat} {F : FT} {hc : Int} {en : Nat → Int} (h : k < n) (hF : fa I 23 = F) (hh : I 22 5 = hc) (he : I 31 k = en k) : ntJ I n 31 k = ntE F hc en k := by
  unfold ntJ ntE
  rw [hF, hh, he]
  by_cases e : en k = -6 ∧ F k 2 ≤ F k 6
  · rw [if_pos ⟨rfl, h, e⟩, if_pos e]
  · rw [if_neg (fun z => e z.2.2), if_neg e]
theorem nt_st {I : MM} {f : Nat} (h : I 31 f = -6 ∧ fa I 23 f 2 ≤ fa I 23 f 6) : up (ntJ I f) 31 f (I 22 5) = ntJ I (f + 1) := by
  funext a k
  unfold up ntJ
  by_cases e : a = 31 ∧ k = f
  · obtain ⟨rfl, rfl⟩ := e
    rw [if_pos ⟨rfl, rfl⟩, if_pos ⟨rfl, by omega, h⟩]
  · rw [if_neg e]
    by_cases q : a = 31 ∧ k < f ∧ I 31 k = -6 ∧ fa I 23 k 2 ≤ fa I 23 k 6
    · rw [if_pos q, if_pos ⟨q.1, by omega, q.2.2⟩]
    · rw [if_neg q, if_neg (fun z => q ⟨z.1, by omega, z.2.2⟩)]
theorem nt_sk {I : MM} {f : Nat} (h : ¬ (I 31 f = -6 ∧ fa I 23 f 2 ≤ fa I 23 f 6)) : ntJ I f = ntJ I (f + 1) := by
  funext a k
  unfold ntJ
  by_cases q : a = 31 ∧ k < f ∧ I 31 k = -6 ∧ fa I 23 k 2 ≤ fa I 23 k 6
  · rw [if_pos q, if_pos ⟨q.1, by omega, q.2.2⟩]
  · rw [if_neg q, if_neg]
    rintro ⟨z1, z2, z3⟩
    rcases (by omega : k < f ∨ k = f) with y | rfl
    · exact q ⟨z1, y, z3⟩
    · exact h z3
/-- the course's state -/
def DSt (I J : MM) (n : Nat) (s : DT) : Prop := fa J 23 = s.1 ∧ J 23 1 = s.2.1 ∧ J 22 5 = s.2.2.1 ∧ (∀ f, f < n → J 31 f = s.2.2.2 f) ∧ J 23 0 = (n : Int) ∧ J 23 2 = I 1 2 ∧ (∀ k, k < 3 → J 25 k = I 3 k) ∧ (∀ k, k < 8 → J 26 k = I 4 k ∧ J 27 k = I 5 k)
def kpL (I J : MM) : Prop := ∀ a k, a < 22 ∨ 31 < a → J a k = I a k
/-- where a day ends -/
def LD (S : Nat → DT) (A : Nat → Int) (B : Nat → Nat) (k j : Nat) : Prop := j ≤ k ∧ (∀ i, i < j → reF (S i).1 (B i) (A i) = 0) ∧ (j = k ∨ (j < k ∧ reF (S j).1 (B j) (A j) ≠ 0))
theorem LD.uniq {S : Nat → DT} {A : Nat → Int} {B : Nat → Nat} {k j j2 : Nat} (h : LD S A B k j) (h2 : LD S A B k j2) : j = j2 := by
  rcases (by omega : j < j2 ∨ j = j2 ∨ j2 < j) with q | q | q
  · have e := h2.2.1 j q
    rcases h.2.2 with z | z
    · have := h2.1; omega
    · exact absurd e z.2
  · exact q
  · have e := h.2.1 j2 q
    rcases h2.2.2 with z | z
    · have := h.1; omega
    · exact absurd e z.2
def bpV (k j : Nat) : Int := if j = k then -6 else (j : Int)
def whV (S : Nat → DT) (A : Nat → Int) (B : Nat → Nat) (k j : Nat) : Int := if j = k then -6 else reF (S j).1 (B j) (A j)
theorem reF_b {F : FT} {f : Nat} {a : Int} : 0 ≤ reF F f a ∧ reF F f a ≤ 2 := by unfold reF; (repeat' split) <;> omega
theorem ntE_b {F : FT} {hc : Int} {en : Nat → Int} {f : Nat} {M : Int} (h0 : 0 ≤ hc ∧ hc ≤ M) (h1 : -6 ≤ en f ∧ en f ≤ M) : -6 ≤ ntE F hc en f ∧ ntE F hc en f ≤ M := by
  unfold ntE; split <;> omega
theorem daS_b {F0 : FT} {d0 : Int} {l0 : Int → Int} {n : Nat} {A : Nat → Int} {B : Nat → Nat} {P : Int} (h0 : okD F0 n P) (hBn : ∀ i, B i < n) : ∀ j, (∀ i, i < j → reF (daS F0 d0 l0 n A B i).1 (B i) (A i) = 0) → okD (daS F0 d0 l0 n A B j).1 n (P + 9 * (j : Int)) ∧ (0 ≤ (daS F0 d0 l0 n A B j).2.2.1 ∧ (daS F0 d0 l0 n A B j).2.2.1 ≤ (j : Int)) ∧ ∀ f, -6 ≤ (daS F0 d0 l0 n A B j).2.2.2 f ∧ (daS F0 d0 l0 n A B j).2.2.2 f ≤ (j : Int)
  | 0, _ => by
    refine ⟨by simpa [daS] using h0, by simp [daS], fun f => ?_⟩
    show -6 ≤ ntE F0 0 (fun _ => -6) f ∧ ntE F0 0 (fun _ => -6) f ≤ ((0 : Nat) : Int)
    exact ntE_b ⟨Int.le_refl _, Int.le_refl _⟩ ⟨Int.le_refl _, by show (-6 : Int) ≤ 0; decide⟩
  | j + 1, h => by
    obtain ⟨a1, a2, a3⟩ := daS_b (d0 := d0) (l0 := l0) (A := A) (B := B) h0 hBn j (fun i hi => h i (by omega))
    show okD (stD l0 n _ _ _).1 n _ ∧ (0 ≤ (stD l0 n _ _ _).2.2.1 ∧ (stD l0 n _ _ _).2.2.1 ≤ _) ∧ ∀ f, _ ≤ (stD l0 n _ _ _).2.2.2 f ∧ (stD l0 n _ _ _).2.2.2 f ≤ _
    unfold stD
    by_cases e : 3 < A j
    · rw [if_pos e]
      refine ⟨(a1.ap (hBn j) (h j (by omega))).mono (by omega), ⟨a2.1, ?_⟩, fun f => ⟨(a3 f).1, ?_⟩⟩
      · have := a2.2; show (daS F0 d0 l0 n A B j).2.2.1 ≤ ((j + 1 : Nat) : Int); omega
      · have := (a3 f).2; show (daS F0 d0 l0 n A B j).2.2.2 f ≤ ((j + 1 : Nat) : Int); omega
    · rw [if_neg e]
      refine ⟨a1.ke.mono (by omega), ⟨?_, ?_⟩, fun f => ntE_b ⟨?_, ?_⟩ ⟨(a3 f).1, ?_⟩⟩
      · have := a2.1; show 0 ≤ (daS F0 d0 l0 n A B j).2.2.1 + 1; omega
      · have := a2.2; show (daS F0 d0 l0 n A B j).2.2.1 + 1 ≤ ((j + 1 : Nat) : Int); omega
      · have := a2.1; omega
      · have := a2.2; omega
      · have := (a3 f).2; omega
section FR
variable {G : GT} {K : List Nat} {N : NN} {I J : MM} {n : Nat}
theorem sp_noteEnough (hN : NS N) (hB : RB I 23 n) (hE : ∀ f, f < n → inr (I 31 f)) : SpV G mX0_noteEnough 2 43 0 0 [.ref 22] K N I (qV K N (ntJ I n)) := by
  refine SpV.of (own := RX0) (cc := cX0_noteEnough) (L := [some (.ref 22), none]) (by decide) rfl rfl (Nat.le_of_ble_eq_true rfl) rfl (fun Fx hnm hret => ?_)
  have hn9 := hB.2.2.1
  have lp : ∀ (m : Nat) (f : Nat) (z : Int) (J : MM), f ≤ n → n < f + m → z = (f : Int) → J = ntJ I f → XX G RX0 cX0_noteEnough (RmW 2 43 0 0) Fx 2 [some (.ref 22), some (vi z)] [] K N J 0 0 := by
    intro m
    induction m with
    | zero => intros; exfalso; omega
    | succ m ih =>
      intro f z J h0 h1 h2 h3
      have hJo : ∀ a k, a ≠ 31 → J a k = I a k := fun a k q => by rw [h3]; exact nt_o q
      have hJf : J 31 f = I 31 f := by rw [h3]; unfold ntJ; rw [if_neg (by omega)]
      have hJ0 : J 23 0 = (n : Int) := (hJo _ _ (by omega)).trans hB.1
      have hBf : f < n → _ := hB.2.2.2.1 f
      have hEf : f < n → _ := hE f
      have hF : fa J 23 = fa I 23 := fa_eq (fun _ => hJo _ _ (by omega))
      refine x_iload_n dX0_noteEnough_2 rfl ?_
      refine x_aload_n dX0_noteEnough_3 rfl ?_
      refine x_getR (j := 23) dX0_noteEnough_4 gf_RX0_12 rfl rfl (hN _ _ (by decide)) ?_
      refine x_getI dX0_noteEnough_7 gf_RX0_76 rfl rfl ?_
      rw [hJ0]
      refine x_icmp_ge 51 dX0_noteEnough_10 (by decide) (by unfold inr; omega) (by unfold inr; omega) (fun h_10 => ?_) (fun h_10 => ?_)
      · refine hret _ _ _ _ _ dX0_noteEnough_51 ?_
        obtain rfl : f = n := by omega
        exact ⟨rfl, rfl, h3⟩
      · refine x_aload_n dX0_noteEnough_13 rfl ?_
        refine x_getR (j := 31) dX0_noteEnough_14 gf_RX0_25 rfl rfl (hN _ _ (by decide)) ?_
        refine x_iload_n dX0_noteEnough_17 rfl ?_
        refine x_iald (f) dX0_noteEnough_18 rfl (by omega) (show _ < 9 by omega) ?_
        rw [hJf]
        refine x_bipush dX0_noteEnough_19 (by decide) ?_
        refine x_icmp_ne 45 dX0_noteEnough_21 (by decide) (hEf (by omega)) (by unfold inr; omega) (fun h_21 => ?_) (fun h_21 => ?_)
        · refine x_inc1 dX0_noteEnough_45 ?_
          refine x_goto 2 dX0_noteEnough_48 (by decide) ?_
          refine ih (f + 1) _ _ (by omega) (by omega) (by omega) ?_
          rw [h3]
          first
          | exact nt_st ⟨by omega, by omega⟩
          | exact nt_sk (by omega)
        · refine x_aload_n dX0_noteEnough_24 rfl ?_
          refine x_getR (j := 23) dX0_noteEnough_25 gf_RX0_12 rfl rfl (hN _ _ (by decide)) ?_
          refine x_iload_n dX0_noteEnough_28 rfl ?_
          refine xf_VI1 dX0_noteEnough_29 ml_RX0_79 vw_X3_lack vv_X3_lack rfl (sp_lack (b := 23) rfl hN f h2 (by omega) (by rw [hF]; have := hBf (by omega); omega) (by rw [hF]; have := hBf (by omega); omega)) ⟨Nat.le_of_ble_eq_true rfl, Nat.le_of_ble_eq_true rfl, Nat.le_of_ble_eq_true rfl, Nat.le_of_ble_eq_true rfl, Nat.le_of_ble_eq_true rfl⟩ ?_
          rw [hF]
          refine x_if_ne 45 dX0_noteEnough_32 (by decide) (by have := hBf (by omega); unfold inr; omega) (fun h_32 => ?_) (fun h_32 => ?_)
          · refine x_inc1 dX0_noteEnough_45 ?_
            refine x_goto 2 dX0_noteEnough_48 (by decide) ?_
            refine ih (f + 1) _ _ (by omega) (by omega) (by omega) ?_
            rw [h3]
            first
            | exact nt_st ⟨by omega, by omega⟩
            | exact nt_sk (by omega)
          · refine x_aload_n dX0_noteEnough_35 rfl ?_
            refine x_getR (j := 31) dX0_noteEnough_36 gf_RX0_25 rfl rfl (hN _ _ (by decide)) ?_
            refine x_iload_n dX0_noteEnough_39 rfl ?_
            refine x_aload_n dX0_noteEnough_40 rfl ?_
            refine x_getI dX0_noteEnough_41 gf_RX0_40 rfl rfl ?_
            rw [hJo 22 5 (by omega)]
            refine x_iast (f) dX0_noteEnough_44 rfl (by omega) (show _ < 9 by omega) ?_
            refine x_inc1 dX0_noteEnough_45 ?_
            refine x_goto 2 dX0_noteEnough_48 (by decide) ?_
            refine ih (f + 1) _ _ (by omega) (by omega) (by omega) ?_
            rw [h3]
            first
            | exact nt_st ⟨by omega, by omega⟩
            | exact nt_sk (by omega)
  refine x_iconst dX0_noteEnough_0 ?_
  refine x_ist1 dX0_noteEnough_1 ?_
  exact lp (n + 1) 0 _ _ (by omega) (by omega) rfl (by
    funext a k
    unfold ntJ
    rw [if_neg (by omega)])
theorem sp_pass (hN : NS N) (hB : RB I 1 n) {s : DT} (hS : DSt I J n s) (hK : kpL I J) {P : Int} (hO : okD s.1 n P) (hP : P ≤ 999990) (hE : ∀ f, f < n → -6 ≤ s.2.2.2 f ∧ s.2.2.2 f ≤ 99) {a : Int} (ha : inr a) (f : Nat) (hf : f < n) {zf : Int} (hzf : zf = (f : Int)) : SpV G mX0_pass 3 69 0 0 [.ref 22, vi a, vi zf] K N J (pV K N (fun J2 => DSt I J2 n (stD (l0R I 1) n s a f) ∧ kpL I J2 ∧ J2 22 3 = J 22 3 ∧ J2 22 4 = J 22 4)) := by
  refine SpV.of (own := RX0) (cc := cX0_pass) (L := [some (.ref 22), some (vi a), some (vi zf)]) (by decide) rfl rfl (Nat.le_of_ble_eq_true rfl) rfl (fun Fx hnm hret => ?_)
  have hn9 := hB.2.2.1
  obtain ⟨s1, s2, s3, s4, s5, s6, s7, s8⟩ := hS
  have hBJ : RB J 23 n := hO.mono (by omega) |>.RB hB s1 s5 s7
  have hl : l0R J 23 a = l0R I 1 a := l0_of s7
  generalize hJ1 : fwJ J 23 28 a n = J1
  have f1 : ∀ x k, x < 28 ∨ 30 < x → J1 x k = J x k := fun x k q => by rw [← hJ1]; exact fw_o q
  generalize hJ2 : keJ J1 23 28 n = J2
  have f2 : ∀ x k, x < 23 ∨ 24 < x → J2 x k = J1 x k := fun x k q => by rw [← hJ2]; exact ke_o (by omega) (by omega)
  have f3 : fa J2 23 = keF s.1 a (l0R I 1 a) n := by
    rw [← hJ2, fa_ke hn9]
    funext g k
    unfold keF
    have e : fa J1 23 = s.1 := (fa_eq (fun _ => f1 _ _ (by omega))).trans s1
    rw [e]
    by_cases q : k = 6 ∧ g < n
    · rw [if_pos q, if_pos q, ← hJ1, show fwJ J 23 28 a n (28 + 1) g = _ from fw_t q.2, s1, hl]
    · rw [if_neg q, if_neg q]
  have f4 : J2 23 1 = s.2.1 + lva s.1 a (l0R I 1 a) n := by
    rw [← hJ2, ke_1, f1 23 1 (by omega), s2, ← hJ1, fw_l, s1, hl]
  have f5 : ∀ k, k ≠ 1 → J2 23 k = J 23 k := fun k q => by rw [← hJ2, ke_o (by omega) (Or.inr q), f1 _ _ (by omega)]
  refine x_iload_n dX0_pass_0 rfl ?_
  refine x_iconst dX0_pass_1 ?_
  refine x_icmp_le 15 dX0_pass_2 (by decide) ha (by unfold inr; omega) (fun h_2 => ?_) (fun h_2 => ?_)
  · refine x_aload_n dX0_pass_15 rfl ?_
    refine x_getR (j := 28) dX0_pass_16 gf_RX0_21 rfl rfl (hN _ _ (by decide)) ?_
    refine x_aload_n dX0_pass_19 rfl ?_
    refine x_getR (j := 23) dX0_pass_20 gf_RX0_12 rfl rfl (hN _ _ (by decide)) ?_
    refine x_iload_n dX0_pass_23 rfl ?_
    refine xf_VV2 dX0_pass_24 ml_RX0_68 vw_X2_flow vv_X2_flow rfl (sp_flow (b := 23) (c := 28) rfl rfl hN hBJ ha) ⟨Nat.le_of_ble_eq_true rfl, Nat.le_of_ble_eq_true rfl, Nat.le_of_ble_eq_true rfl, Nat.le_of_ble_eq_true rfl, Nat.le_of_ble_eq_true rfl⟩ ?_
    rw [hJ1]
    refine x_aload_n dX0_pass_27 rfl ?_
    refine x_getR (j := 23) dX0_pass_28 gf_RX0_12 rfl rfl (hN _ _ (by decide)) ?_
    refine x_aload_n dX0_pass_31 rfl ?_
    refine x_getR (j := 28) dX0_pass_32 gf_RX0_21 rfl rfl (hN _ _ (by decide)) ?_
    refine xf_VV1 dX0_pass_35 ml_RX0_72 vw_X3_keep vv_X3_keep rfl (sp_keep (b := 23) (c := 28) rfl rfl hN (f1 23 0 (by omega) |>.trans s5) hn9) ⟨Nat.le_of_ble_eq_true rfl, Nat.le_of_ble_eq_true rfl, Nat.le_of_ble_eq_true rfl, Nat.le_of_ble_eq_true rfl, Nat.le_of_ble_eq_true rfl⟩ ?_
    rw [hJ2]
    refine x_aload_n dX0_pass_38 rfl ?_
    refine x_dupR dX0_pass_39 ?_
    refine x_getI dX0_pass_40 gf_RX0_40 rfl rfl ?_
    rw [f2 22 5 (by omega), f1 22 5 (by omega), s3]
    refine x_iconst dX0_pass_43 ?_
    refine x_iadd dX0_pass_44 ?_
    refine x_putI dX0_pass_45 pf_RX0_40 rfl rfl ?_
    refine x_aload_n dX0_pass_48 rfl ?_
    have hRB : RB (up J2 22 5 (s.2.2.1 + 1)) 23 n := okD.RB hB (hO.ke.mono (by omega)) ((fa_eq (fun _ => up_n1 (by omega))).trans f3) (by rw [up_n1 (by omega), f5 _ (by omega)]; exact s5) (fun k hk => by rw [up_n1 (by omega), f2 _ _ (by omega), f1 _ _ (by omega)]; exact s7 k hk)
    have hEE : ∀ g, g < n → inr (up J2 22 5 (s.2.2.1 + 1) 31 g) := fun g hg => by
      rw [up_n1 (by omega), f2 _ _ (by omega), f1 _ _ (by omega), s4 g hg]
      have := hE g hg
      unfold inr; omega
    refine xf_VV0 dX0_pass_49 ml_RX0_43 vw_X0_noteEnough vv_X0_noteEnough rfl (sp_noteEnough hN hRB hEE) ⟨Nat.le_of_ble_eq_true rfl, Nat.le_of_ble_eq_true rfl, Nat.le_of_ble_eq_true rfl, Nat.le_of_ble_eq_true rfl, Nat.le_of_ble_eq_true rfl⟩ ?_
    refine hret _ _ _ _ _ dX0_pass_52 ?_
    refine ⟨rfl, rfl, ⟨?_, ?_, ?_, ?_, ?_, ?_, ?_, ?_⟩, ?_, ?_, ?_⟩
    all_goals (try unfold stD)
    all_goals (try rw [if_neg (show ¬ 3 < a by omega)])
    · rw [fa_eq (I := J2) (fun _ => (nt_o (by omega)).trans (up_n1 (by omega)))]; exact f3
    · rw [nt_o (by omega), up_n1 (by omega)]; exact f4
    · rw [nt_o (by omega), up_s]
    · intro g hg
      refine nt_e hg ((fa_eq (fun _ => up_n1 (by omega))).trans f3) up_s ?_
      rw [up_n1 (by omega), f2 _ _ (by omega), f1 _ _ (by omega)]; exact s4 g hg
    · rw [nt_o (by omega), up_n1 (by omega), f5 _ (by omega)]; exact s5
    · rw [nt_o (by omega), up_n1 (by omega), f5 _ (by omega)]; exact s6
    · intro k hk; rw [nt_o (by omega), up_n1 (by omega), f2 _ _ (by omega), f1 _ _ (by omega)]; exact s7 k hk
    · intro k hk; rw [nt_o (by omega), up_n1 (by omega), f2 _ _ (by omega), f1 _ _ (by omega), nt_o (by omega), up_n1 (by omega), f2 _ _ (by omega), f1 _ _ (by omega)]; exact s8 k hk
    · intro x k q; rw [nt_o (by omega), up_n1 (by omega), f2 _ _ (by omega), f1 _ _ (by omega)]; exact hK x k q
    · rw [nt_o (by omega), up_n2 (by omega), f2 _ _ (by omega), f1 _ _ (by omega)]
    · rw [nt_o (by omega), up_n2 (by omega), f2 _ _ (by omega), f1 _ _ (by omega)]
  · refine x_aload_n dX0_pass_5 rfl ?_
    refine x_getR (j := 23) dX0_pass_6 gf_RX0_12 rfl rfl (hN _ _ (by decide)) ?_
    refine x_iload_n dX0_pass_9 rfl ?_
    refine x_iload_n dX0_pass_10 rfl ?_
    refine xf_VV2 dX0_pass_11 ml_RX0_65 vw_X3_apply vv_X3_apply rfl (sp_apply (b := 23) rfl hN f hzf (by omega) ha) ⟨Nat.le_of_ble_eq_true rfl, Nat.le_of_ble_eq_true rfl, Nat.le_of_ble_eq_true rfl, Nat.le_of_ble_eq_true rfl, Nat.le_of_ble_eq_true rfl⟩ ?_
    refine hret _ _ _ _ _ dX0_pass_14 ?_
    refine ⟨rfl, rfl, ⟨?_, ?_, ?_, ?_, ?_, ?_, ?_, ?_⟩, ?_, ?_, ?_⟩
    all_goals (try unfold stD)
    all_goals (try rw [if_pos h_2])
    · rw [fa_ap (by omega), s1]
    · rw [ap_o (by omega)]; exact s2
    · rw [ap_o (by omega)]; exact s3
    · intro g hg; rw [ap_o (by omega)]; exact s4 g hg
    · rw [ap_o (by omega)]; exact s5
    · rw [ap_o (by omega)]; exact s6
    · intro k hk; rw [ap_o (by omega)]; exact s7 k hk
    · intro k hk; rw [ap_o (by omega), ap_o (by omega)]; exact s8 k hk
    · intro x k q; rw [ap_o (by omega)]; exact hK x k q
    · rw [ap_o (by omega)]
    · rw [ap_o (by omega)]
end FR

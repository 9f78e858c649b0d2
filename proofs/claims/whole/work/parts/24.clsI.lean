/-! ===== SpringFarms: widths at rest ===== -/
theorem dJ6_bitCount_0f7a4_0 : decode cJ6_bitCount_0f7a4 0 = .ok (.iload_n 0, 1) := by decide +kernel
theorem dJ6_bitCount_0f7a4_1 : decode cJ6_bitCount_0f7a4 1 = .ok (.iload_n 0, 1) := by decide +kernel
theorem dJ6_bitCount_0f7a4_2 : decode cJ6_bitCount_0f7a4 2 = .ok (.iconst 1, 1) := by decide +kernel
theorem dJ6_bitCount_0f7a4_3 : decode cJ6_bitCount_0f7a4 3 = .ok (.iushr, 1) := by decide +kernel
theorem dJ6_bitCount_0f7a4_4 : decode cJ6_bitCount_0f7a4 4 = .ok (.ldc_w 265, 3) := by decide +kernel
theorem dJ6_bitCount_0f7a4_7 : decode cJ6_bitCount_0f7a4 7 = .ok (.iand, 1) := by decide +kernel
theorem dJ6_bitCount_0f7a4_8 : decode cJ6_bitCount_0f7a4 8 = .ok (.isub, 1) := by decide +kernel
theorem dJ6_bitCount_0f7a4_9 : decode cJ6_bitCount_0f7a4 9 = .ok (.istore_n 0, 1) := by decide +kernel
theorem dJ6_bitCount_0f7a4_10 : decode cJ6_bitCount_0f7a4 10 = .ok (.iload_n 0, 1) := by decide +kernel
theorem dJ6_bitCount_0f7a4_11 : decode cJ6_bitCount_0f7a4 11 = .ok (.ldc_w 266, 3) := by decide +kernel
theorem dJ6_bitCount_0f7a4_14 : decode cJ6_bitCount_0f7a4 14 = .ok (.iand, 1) := by decide +kernel
theorem dJ6_bitCount_0f7a4_15 : decode cJ6_bitCount_0f7a4 15 = .ok (.iload_n 0, 1) := by decide +kernel
theorem dJ6_bitCount_0f7a4_16 : decode cJ6_bitCount_0f7a4 16 = .ok (.iconst 2, 1) := by decide +kernel
theorem dJ6_bitCount_0f7a4_17 : decode cJ6_bitCount_0f7a4 17 = .ok (.iushr, 1) := by decide +kernel
theorem dJ6_bitCount_0f7a4_18 : decode cJ6_bitCount_0f7a4 18 = .ok (.ldc_w 266, 3) := by decide +kernel
theorem dJ6_bitCount_0f7a4_21 : decode cJ6_bitCount_0f7a4 21 = .ok (.iand, 1) := by decide +kernel
theorem dJ6_bitCount_0f7a4_22 : decode cJ6_bitCount_0f7a4 22 = .ok (.iadd, 1) := by decide +kernel
theorem dJ6_bitCount_0f7a4_23 : decode cJ6_bitCount_0f7a4 23 = .ok (.istore_n 0, 1) := by decide +kernel
theorem dJ6_bitCount_0f7a4_24 : decode cJ6_bitCount_0f7a4 24 = .ok (.iload_n 0, 1) := by decide +kernel
theorem dJ6_bitCount_0f7a4_25 : decode cJ6_bitCount_0f7a4 25 = .ok (.iload_n 0, 1) := by decide +kernel
theorem dJ6_bitCount_0f7a4_26 : decode cJ6_bitCount_0f7a4 26 = .ok (.iconst 4, 1) := by decide +kernel
theorem dJ6_bitCount_0f7a4_27 : decode cJ6_bitCount_0f7a4 27 = .ok (.iushr, 1) := by decide +kernel
theorem dJ6_bitCount_0f7a4_28 : decode cJ6_bitCount_0f7a4 28 = .ok (.iadd, 1) := by decide +kernel
theorem dJ6_bitCount_0f7a4_29 : decode cJ6_bitCount_0f7a4 29 = .ok (.ldc_w 267, 3) := by decide +kernel
theorem dJ6_bitCount_0f7a4_32 : decode cJ6_bitCount_0f7a4 32 = .ok (.iand, 1) := by decide +kernel
theorem dJ6_bitCount_0f7a4_33 : decode cJ6_bitCount_0f7a4 33 = .ok (.istore_n 0, 1) := by decide +kernel
theorem dJ6_bitCount_0f7a4_34 : decode cJ6_bitCount_0f7a4 34 = .ok (.iload_n 0, 1) := by decide +kernel
theorem dJ6_bitCount_0f7a4_35 : decode cJ6_bitCount_0f7a4 35 = .ok (.iload_n 0, 1) := by decide +kernel
theorem dJ6_bitCount_0f7a4_36 : decode cJ6_bitCount_0f7a4 36 = .ok (.bipush 8, 2) := by decide +kernel
theorem dJ6_bitCount_0f7a4_38 : decode cJ6_bitCount_0f7a4 38 = .ok (.iushr, 1) := by decide +kernel
theorem dJ6_bitCount_0f7a4_39 : decode cJ6_bitCount_0f7a4 39 = .ok (.iadd, 1) := by decide +kernel
theorem dJ6_bitCount_0f7a4_40 : decode cJ6_bitCount_0f7a4 40 = .ok (.istore_n 0, 1) := by decide +kernel
theorem dJ6_bitCount_0f7a4_41 : decode cJ6_bitCount_0f7a4 41 = .ok (.iload_n 0, 1) := by decide +kernel
theorem dJ6_bitCount_0f7a4_42 : decode cJ6_bitCount_0f7a4 42 = .ok (.iload_n 0, 1) := by decide +kernel
theorem dJ6_bitCount_0f7a4_43 : decode cJ6_bitCount_0f7a4 43 = .ok (.bipush 16, 2) := by decide +kernel
theorem dJ6_bitCount_0f7a4_45 : decode cJ6_bitCount_0f7a4 45 = .ok (.iushr, 1) := by decide +kernel
theorem dJ6_bitCount_0f7a4_46 : decode cJ6_bitCount_0f7a4 46 = .ok (.iadd, 1) := by decide +kernel
theorem dJ6_bitCount_0f7a4_47 : decode cJ6_bitCount_0f7a4 47 = .ok (.istore_n 0, 1) := by decide +kernel
theorem dJ6_bitCount_0f7a4_48 : decode cJ6_bitCount_0f7a4 48 = .ok (.iload_n 0, 1) := by decide +kernel
theorem dJ6_bitCount_0f7a4_49 : decode cJ6_bitCount_0f7a4 49 = .ok (.bipush 63, 2) := by decide +kernel
theorem dJ6_bitCount_0f7a4_51 : decode cJ6_bitCount_0f7a4 51 = .ok (.iand, 1) := by decide +kernel
theorem dJ6_bitCount_0f7a4_52 : decode cJ6_bitCount_0f7a4 52 = .ok (.ireturn, 1) := by decide +kernel

section FR
variable {G : GT} {own : String} {cc : ByteArray} {R : Room} {Fx : FxT} {pc : Nat} {L : List (Option Value)} {S : List Value} {K : List Nat} {N : NN} {I : MM} {cs ss : Nat}
theorem x_iushr {a b : Int} (v : Int) (hd : decode cc pc = .ok (.iushr, 1)) (hv : ((Int32.ofInt a).toUInt32 >>> ((Int32.ofInt b).toUInt32 &&& Int32.toUInt32 31)).toInt32 = Int32.ofInt v) (h : XX G own cc R Fx (pc + 1) L (vi v :: S) K N I cs ss) : XX G own cc R Fx pc L (vi b :: vi a :: S) K N I cs ss := by
  obtain ⟨p, e, s, m, args, below, meth, c, Q, nL, a0, K0⟩ := Fx
  intro ok al H locs ls st
  obtain ⟨hx, hb, hml, hown, hts, hE, hA⟩ := id ok
  have k := h ok al H locs ls (st.to (fun q => q.tail.tail.cons trivial))
  exact lv_iushr hx hb hd hv k
theorem x_ldcw {n : Int} {x : Nat} (hd : decode cc pc = .ok (.ldc_w x, 3)) (hw : Cond.constant own x (Int32.ofInt n) ∈ Wd) (h : XX G own cc R Fx (pc + 3) L (vi n :: S) K N I cs ss) : XX G own cc R Fx pc L (S) K N I cs ss := by
  obtain ⟨p, e, s, m, args, below, meth, c, Q, nL, a0, K0⟩ := Fx
  intro ok al H locs ls st
  obtain ⟨hx, hb, hml, hown, hts, hE, hA⟩ := id ok
  have k := h ok al H locs ls (st.to (fun q => q.cons trivial))
  exact lv_ldcw hx hb hown (hts _ hw) hd k
end FR
def bcA (a b : Int) : Int := (Int32.ofInt a &&& Int32.ofInt b).toInt
def bcU (a b : Int) : Int := ((Int32.ofInt a).toUInt32 >>> ((Int32.ofInt b).toUInt32 &&& Int32.toUInt32 31)).toInt32.toInt
def bc1 (s : Int) : Int := s - bcA (bcU s 1) 1431655765
def bc2 (s : Int) : Int := bcA s 858993459 + bcA (bcU s 2) 858993459
def bc3 (s : Int) : Int := bcA (s + bcU s 4) 252645135
def bc4 (k s : Int) : Int := s + bcU s k
def bcV (s : Int) : Int := bcA (bc4 16 (bc4 8 (bc3 (bc2 (bc1 s))))) 63
def onL (s : Nat) : Nat → List Nat
  | 0 => []
  | k + 1 => onL s k ++ (if s / 2 ^ k % 2 = 1 then [k] else [])
theorem bc_all : ∀ s : Nat, s < 512 → bcV (s : Int) = ((onL s 9).length : Int) := by decide +kernel
theorem on_all : ∀ n : Nat, n < 10 → ∀ s : Nat, s < 2 ^ n → onL s 9 = onL s n := by decide +kernel
theorem shr_all : ∀ s : Nat, s < 512 → ∀ k : Nat, k < 9 → Int32.ofInt (s : Int) >>> (Int32.ofInt (k : Int) &&& 31) = Int32.ofInt ((s / 2 ^ k : Nat) : Int) := by decide +kernel
theorem and_all : ∀ t : Nat, t < 512 → Int32.ofInt (t : Int) &&& Int32.ofInt 1 = Int32.ofInt ((t % 2 : Nat) : Int) := by decide +kernel
theorem shl_all : ∀ n : Nat, n < 10 → Int32.ofInt 1 <<< (Int32.ofInt (n : Int) &&& 31) = Int32.ofInt ((2 ^ n : Nat) : Int) := by decide +kernel
theorem onL_app {s k : Nat} : ∀ d, ∃ t, onL s (k + d) = onL s k ++ t
  | 0 => ⟨[], by simp⟩
  | d + 1 => by
    obtain ⟨t, ht⟩ := onL_app (s := s) (k := k) d
    refine ⟨t ++ (if s / 2 ^ (k + d) % 2 = 1 then [k + d] else []), ?_⟩
    show onL s (k + d) ++ _ = _
    rw [ht, List.append_assoc]; rfl
theorem onL_lt {s : Nat} : ∀ {k x : Nat}, x ∈ onL s k → x < k
  | 0, x, h => absurd h (by simp [onL])
  | k + 1, x, h => by
    simp only [onL, List.mem_append] at h
    rcases h with h | h
    · have := onL_lt h; omega
    · split at h
      · simp only [List.mem_singleton] at h; omega
      · simp at h
theorem onL_len {s : Nat} : ∀ {k : Nat}, (onL s k).length ≤ k
  | 0 => Nat.le_refl _
  | k + 1 => by
    have := onL_len (s := s) (k := k)
    simp only [onL, List.length_append]
    split <;> simp <;> omega
theorem onL_g {s k j : Nat} (h : j < (onL s k).length) : (onL s k).getD j 0 < k := by
  apply onL_lt (s := s)
  rw [List.getD_eq_getElem?_getD, List.getElem?_eq_getElem h]
  exact List.getElem_mem h
def st5 (q j : Nat) : Int := (5 : Int) ^ (q - 1 - j)
def dg5 (q row j : Nat) : Int := (row : Int) / st5 q j % 5
def r25 (q row j w : Nat) : Nat := row - row / 5 ^ (q - 1 - j) % 5 * 5 ^ (q - 1 - j) + w * 5 ^ (q - 1 - j)
theorem st5_b : ∀ q : Nat, q < 4 → ∀ j : Nat, j < q → 0 < st5 q j ∧ st5 q j ≤ 25 := by decide +kernel
theorem mn5 : ∀ q : Nat, q < 4 → 0 < q → min 125 (5 * st5 q 0) = ((5 ^ q : Nat) : Int) ∧ 5 ^ q ≤ 125 := by decide +kernel
theorem r25_all : ∀ q : Nat, q < 4 → ∀ j : Nat, j < q → ∀ row : Nat, row < 5 ^ q → ∀ w : Nat, w < 5 → ((row : Int) - (row : Int) / st5 q j % 5 * st5 q j) + (w : Int) * st5 q j = ((r25 q row j w : Nat) : Int) ∧ r25 q row j w < 5 ^ q := by decide +kernel
theorem rb5_all : ∀ q : Nat, q < 4 → ∀ j : Nat, j < q → ∀ row : Nat, row < 5 ^ q → (0 ≤ (row : Int) / st5 q j ∧ (row : Int) / st5 q j ≤ 125) ∧ 0 ≤ (row : Int) / st5 q j % 5 * st5 q j ∧ (row : Int) / st5 q j % 5 * st5 q j ≤ 125 := by decide +kernel
theorem dg5_b {q row j : Nat} : 0 ≤ dg5 q row j ∧ dg5 q row j ≤ 4 := by unfold dg5; omega
def wfc (F : Nat → Nat → Int) (c : Nat → Nat) (d : Nat → Int) : Nat → Nat → Nat → Int
  | 0 => F
  | j + 1 => setF (wfc F c d j) (c j) 1 (d j)
theorem wfc_in {F F' : Nat → Nat → Int} {c : Nat → Nat} {d : Nat → Int} {g : Nat} : ∀ q, (∃ i, i < q ∧ c i = g) → wfc F c d q g 1 = wfc F' c d q g 1
  | 0, h => by obtain ⟨i, hi, -⟩ := h; omega
  | q + 1, h => by
    show setF _ _ _ _ _ _ = setF _ _ _ _ _ _
    unfold setF
    by_cases e : g = c q
    · rw [if_pos ⟨e, rfl⟩, if_pos ⟨e, rfl⟩]
    · rw [if_neg (fun z => e z.1), if_neg (fun z => e z.1)]
      obtain ⟨i, hi, hc⟩ := h
      refine wfc_in q ⟨i, ?_, hc⟩
      rcases (by omega : i < q ∨ i = q) with z | rfl
      · exact z
      · exact absurd hc.symm e
theorem wfc_out {F : Nat → Nat → Int} {c : Nat → Nat} {d : Nat → Int} {g k : Nat} : ∀ q, ¬ (k = 1 ∧ ∃ i, i < q ∧ c i = g) → wfc F c d q g k = F g k
  | 0, _ => rfl
  | q + 1, h => by
    show setF _ _ _ _ _ _ = _
    unfold setF
    rw [if_neg (by rintro ⟨rfl, rfl⟩; exact h ⟨rfl, q, by omega, rfl⟩)]
    exact wfc_out q (by rintro ⟨hk, i, hi, hc⟩; exact h ⟨hk, i, by omega, hc⟩)
theorem wfc_wfc {F : Nat → Nat → Int} {c : Nat → Nat} {d d' : Nat → Int} {q : Nat} : wfc (wfc F c d q) c d' q = wfc F c d' q := by
  funext g k
  by_cases h : k = 1 ∧ ∃ i, i < q ∧ c i = g
  · obtain ⟨rfl, h⟩ := h
    exact wfc_in q h
  · rw [wfc_out q h, wfc_out q h, wfc_out q h]
def gn5 (F : Nat → Nat → Int) (l0 : Int) (q : Nat) (c : Nat → Nat) (row j : Nat) : Int := 4 * tok (wfc F c (dg5 q row) q) 0 l0 (c j) - 3 * wfc F c (dg5 q row) q (c j) 1
abbrev rsP (g : Nat → Nat → Int) (q row : Nat) : Prop := ∀ j, j < q → ∀ w, w < 5 → g (r25 q row j w) j ≤ g row j
def asD (row : Nat) : Int := (row : Int) / 25 * 100 + (row : Int) / 5 % 5 * 10 + (row : Int) % 5
def reL (g : Nat → Nat → Int) (q : Nat) : Nat → List Int := clL (fun r => decide (rsP g q r)) asD
def reA (F : Nat → Nat → Int) (l0 : Int) (n s : Nat) (i : Int) : Int := if 3 < (onL s n).length then -4 else foA (reL (gn5 F l0 (onL s n).length (fun j => (onL s n).getD j 0)) (onL s n).length (5 ^ (onL s n).length)) i
theorem on0_all : ∀ n : Nat, n < 10 → ∀ s : Nat, s < 2 ^ n → 0 < s → 0 < (onL s n).length := by decide +kernel
theorem gn5_b {I : MM} {n q row j : Nat} {c : Nat → Nat} (hB : RB I 1 n) (hc : ∀ j, j < q → c j < n) (hj : j < q) : inr (gn5 (fa I 1) (l0R I 1 0) q c row j) := by
  have key : ∀ k, k ≤ q → ∀ g, g < n → ∀ x, okF x (wfc (fa I 1) c (dg5 q row) k g x) ∨ 7 ≤ x := by
    intro k
    induction k with
    | zero =>
      intro _ g hg x
      rcases (by omega : x < 7 ∨ 7 ≤ x) with h | h
      · exact Or.inl (okF_at hB hg h)
      · exact Or.inr h
    | succ k ih =>
      intro hk g hg x
      show okF x (setF _ _ _ _ g x) ∨ _
      unfold setF
      split
      · rename_i h
        have := dg5_b (q := q) (row := row) (j := k)
        left; unfold okF; omega
      · exact ih (by omega) g hg x
  have h1 := key q (Nat.le_refl _) (c j) (hc j hj) 1
  unfold okF at h1
  unfold gn5 tok tks inr
  split <;> omega
section FR
variable {G : GT} {K : List Nat} {N : NN} {I : MM} {n : Nat}
theorem sp_bitCount {s : Int} : SpI G mJ6_bitCount_0f7a4 .int 0 0 0 0 [vi s] K N I (qI K N I (bcV s)) := by
  refine SpI.of (own := RJ6) (cc := cJ6_bitCount_0f7a4) (L := [some (vi s)]) (by decide) rfl rfl (Nat.le_of_ble_eq_true rfl) rfl (fun Fx hnm hret => ?_)
  refine x_iload_n dJ6_bitCount_0f7a4_0 rfl ?_
  refine x_iload_n dJ6_bitCount_0f7a4_1 rfl ?_
  refine x_iconst dJ6_bitCount_0f7a4_2 ?_
  refine x_iushr _ dJ6_bitCount_0f7a4_3 (Int32.ofInt_toInt _).symm ?_
  refine x_ldcw dJ6_bitCount_0f7a4_4 ct_RJ6_265 ?_
  refine x_iand _ dJ6_bitCount_0f7a4_7 (Int32.ofInt_toInt _).symm ?_
  refine x_isub dJ6_bitCount_0f7a4_8 ?_
  refine x_ist0 dJ6_bitCount_0f7a4_9 ?_
  refine x_iload_n dJ6_bitCount_0f7a4_10 rfl ?_
  refine x_ldcw dJ6_bitCount_0f7a4_11 ct_RJ6_266 ?_
  refine x_iand _ dJ6_bitCount_0f7a4_14 (Int32.ofInt_toInt _).symm ?_
  refine x_iload_n dJ6_bitCount_0f7a4_15 rfl ?_
  refine x_iconst dJ6_bitCount_0f7a4_16 ?_
  refine x_iushr _ dJ6_bitCount_0f7a4_17 (Int32.ofInt_toInt _).symm ?_
  refine x_ldcw dJ6_bitCount_0f7a4_18 ct_RJ6_266 ?_
  refine x_iand _ dJ6_bitCount_0f7a4_21 (Int32.ofInt_toInt _).symm ?_
  refine x_iadd dJ6_bitCount_0f7a4_22 ?_
  refine x_ist0 dJ6_bitCount_0f7a4_23 ?_
  refine x_iload_n dJ6_bitCount_0f7a4_24 rfl ?_
  refine x_iload_n dJ6_bitCount_0f7a4_25 rfl ?_
  refine x_iconst dJ6_bitCount_0f7a4_26 ?_
  refine x_iushr _ dJ6_bitCount_0f7a4_27 (Int32.ofInt_toInt _).symm ?_
  refine x_iadd dJ6_bitCount_0f7a4_28 ?_
  refine x_ldcw dJ6_bitCount_0f7a4_29 ct_RJ6_267 ?_
  refine x_iand _ dJ6_bitCount_0f7a4_32 (Int32.ofInt_toInt _).symm ?_
  refine x_ist0 dJ6_bitCount_0f7a4_33 ?_
  refine x_iload_n dJ6_bitCount_0f7a4_34 rfl ?_
  refine x_iload_n dJ6_bitCount_0f7a4_35 rfl ?_
  refine x_bipush dJ6_bitCount_0f7a4_36 (by decide) ?_
  refine x_iushr _ dJ6_bitCount_0f7a4_38 (Int32.ofInt_toInt _).symm ?_
  refine x_iadd dJ6_bitCount_0f7a4_39 ?_
  refine x_ist0 dJ6_bitCount_0f7a4_40 ?_
  refine x_iload_n dJ6_bitCount_0f7a4_41 rfl ?_
  refine x_iload_n dJ6_bitCount_0f7a4_42 rfl ?_
  refine x_bipush dJ6_bitCount_0f7a4_43 (by decide) ?_
  refine x_iushr _ dJ6_bitCount_0f7a4_45 (Int32.ofInt_toInt _).symm ?_
  refine x_iadd dJ6_bitCount_0f7a4_46 ?_
  refine x_ist0 dJ6_bitCount_0f7a4_47 ?_
  refine x_iload_n dJ6_bitCount_0f7a4_48 rfl ?_
  refine x_bipush dJ6_bitCount_0f7a4_49 (by decide) ?_
  refine x_iand _ dJ6_bitCount_0f7a4_51 (Int32.ofInt_toInt _).symm ?_
  refine hret _ _ _ _ _ _ dJ6_bitCount_0f7a4_52 rfl ?_
  exact ⟨rfl, rfl, rfl, rfl⟩
theorem sp_gather (hN : NS N) (hn : I 1 0 = (n : Int)) (hn9 : n ≤ 9) {s : Nat} (hs : s < 512) (h3 : (onL s n).length ≤ 3) {z : Int} (hz : z = (s : Int)) : SpI G mX4_gather .int 0 0 0 0 [.ref 0, vi z] K N I (pI K N (fun z J => z = ((onL s n).length : Int) ∧ (∀ j, j < (onL s n).length → J 33 j = (((onL s n).getD j 0 : Nat) : Int)) ∧ ∀ a b, a ≠ 33 → J a b = I a b)) := by
  refine SpI.of (own := RX4) (cc := cX4_gather) (L := [some (.ref 0), some (vi z), none, none]) (by decide) rfl rfl (Nat.le_of_ble_eq_true rfl) rfl (fun Fx hnm hret => ?_)
  have lp : ∀ (m : Nat) (k : Nat) (x y : Int) (J : MM), k ≤ n → n < k + m → x = (k : Int) → y = ((onL s k).length : Int) → (∀ j, j < (onL s k).length → J 33 j = (((onL s k).getD j 0 : Nat) : Int)) → (∀ a b, a ≠ 33 → J a b = I a b) → XX G RX4 cX4_gather (RmW 0 0 0 0) Fx 4 [some (.ref 0), some (vi z), some (vi y), some (vi x)] [] K N J 0 0 := by
    intro m
    induction m with
    | zero => intros; exfalso; omega
    | succ m ih =>
      intro k x y J h0 h1 h2 h4 h5 h6
      have hJ0 : J 1 0 = (n : Int) := (h6 1 0 (by omega)).trans hn
      obtain ⟨t, ht⟩ := onL_app (s := s) (k := k) (n - k)
      rw [show k + (n - k) = n by omega] at ht
      have hle : (onL s n).length = (onL s k).length + t.length := by rw [ht, List.length_append]
      refine x_iload_n dX4_gather_4 rfl ?_
      refine x_aload_n dX4_gather_5 rfl ?_
      refine x_getR (j := 1) dX4_gather_6 gf_RX4_10 rfl rfl (hN _ _ (by decide)) ?_
      refine x_getI dX4_gather_9 gf_RX4_60 rfl rfl ?_
      rw [hJ0]
      refine x_icmp_ge 44 dX4_gather_12 (by decide) (by unfold inr; omega) (by unfold inr; omega) (fun h_12 => ?_) (fun h_12 => ?_)
      · refine x_iload_n dX4_gather_44 rfl ?_
        refine hret _ _ _ _ _ _ dX4_gather_45 rfl ?_
        have e : onL s n = onL s k := by
          by_cases ekn : k = n
          · rw [ekn]
          · have : t = [] := List.eq_nil_of_length_eq_zero (by omega)
            rw [ht, this, List.append_nil]
        refine ⟨rfl, rfl, ?_, ?_, h6⟩
        · rw [e]; exact h4
        · rw [e]; exact h5
      · refine x_iload_n dX4_gather_15 rfl ?_
        refine x_iconst dX4_gather_16 ?_
        refine x_icmp_ge 44 dX4_gather_17 (by decide) (by unfold inr; omega) (by unfold inr; omega) (fun h_17 => ?_) (fun h_17 => ?_)
        · refine x_iload_n dX4_gather_44 rfl ?_
          refine hret _ _ _ _ _ _ dX4_gather_45 rfl ?_
          have e : onL s n = onL s k := by
            by_cases ekn : k = n
            · rw [ekn]
            · have : t = [] := List.eq_nil_of_length_eq_zero (by omega)
              rw [ht, this, List.append_nil]
          refine ⟨rfl, rfl, ?_, ?_, h6⟩
          · rw [e]; exact h4
          · rw [e]; exact h5
        · refine x_iload_n dX4_gather_20 rfl ?_
          refine x_iload_n dX4_gather_21 rfl ?_
          refine x_ishr ((s / 2 ^ k : Nat) : Int) dX4_gather_22 (by rw [hz, h2]; exact shr_all s hs k (by omega)) ?_
          refine x_iconst dX4_gather_23 ?_
          refine x_iand ((s / 2 ^ k % 2 : Nat) : Int) dX4_gather_24 (and_all _ (Nat.lt_of_le_of_lt (Nat.div_le_self _ _) hs)) ?_
          refine x_if_eq 38 dX4_gather_25 (by decide) (by unfold inr; omega) (fun h_25 => ?_) (fun h_25 => ?_)
          · refine x_inc3 dX4_gather_38 ?_
            refine x_goto 4 dX4_gather_41 (by decide) ?_
            first
            | (have e : onL s (k + 1) = onL s k := by
                 show onL s k ++ (if s / 2 ^ k % 2 = 1 then [k] else []) = _
                 rw [if_neg (by omega), List.append_nil]
               refine ih (k + 1) _ _ _ (by omega) (by omega) (by omega) ?_ ?_ h6
               · rw [e]; exact h4
               · rw [e]; exact h5)
            | (have e : onL s (k + 1) = onL s k ++ [k] := by
                 show onL s k ++ (if s / 2 ^ k % 2 = 1 then [k] else []) = _
                 rw [if_pos (by omega)]
               refine ih (k + 1) _ _ _ (by omega) (by omega) (by omega) ?_ ?_ (fun a b q => by rw [up_n1 (by omega)]; exact h6 a b q)
               · rw [e, List.length_append, h4]; simp
               · intro j hj
                 rw [e] at hj ⊢
                 simp only [List.length_append, List.length_cons, List.length_nil] at hj
                 by_cases ej : j = (onL s k).length
                 · subst ej
                   rw [up_s, h2]; simp
                 · rw [up_n2 ej, h5 j (by omega)]
                   simp only [List.getD_eq_getElem?_getD]
                   rw [List.getElem?_append_left (by omega)])
          · refine x_aload_n dX4_gather_28 rfl ?_
            refine x_getR (j := 33) dX4_gather_29 gf_RX4_51 rfl rfl (hN _ _ (by decide)) ?_
            refine x_iload_n dX4_gather_32 rfl ?_
            refine x_iload_n dX4_gather_33 rfl ?_
            refine x_iast ((onL s k).length) dX4_gather_34 rfl h4 (show _ < 3 by omega) ?_
            refine x_inc2 dX4_gather_35 ?_
            refine x_inc3 dX4_gather_38 ?_
            refine x_goto 4 dX4_gather_41 (by decide) ?_
            first
            | (have e : onL s (k + 1) = onL s k := by
                 show onL s k ++ (if s / 2 ^ k % 2 = 1 then [k] else []) = _
                 rw [if_neg (by omega), List.append_nil]
               refine ih (k + 1) _ _ _ (by omega) (by omega) (by omega) ?_ ?_ h6
               · rw [e]; exact h4
               · rw [e]; exact h5)
            | (have e : onL s (k + 1) = onL s k ++ [k] := by
                 show onL s k ++ (if s / 2 ^ k % 2 = 1 then [k] else []) = _
                 rw [if_pos (by omega)]
               refine ih (k + 1) _ _ _ (by omega) (by omega) (by omega) ?_ ?_ (fun a b q => by rw [up_n1 (by omega)]; exact h6 a b q)
               · rw [e, List.length_append, h4]; simp
               · intro j hj
                 rw [e] at hj ⊢
                 simp only [List.length_append, List.length_cons, List.length_nil] at hj
                 by_cases ej : j = (onL s k).length
                 · subst ej
                   rw [up_s, h2]; simp
                 · rw [up_n2 ej, h5 j (by omega)]
                   simp only [List.getD_eq_getElem?_getD]
                   rw [List.getElem?_append_left (by omega)])
  refine x_iconst dX4_gather_0 ?_
  refine x_ist2 dX4_gather_1 ?_
  refine x_iconst dX4_gather_2 ?_
  refine x_ist3 dX4_gather_3 ?_
  exact lp (n + 1) 0 _ _ _ (by omega) (by omega) rfl rfl (fun j hj => absurd hj (Nat.not_lt_zero j)) (fun _ _ _ => rfl)
theorem sp_stride (q j : Nat) {zj zq : Int} (hj : zj = (j : Int)) (hq : zq = (q : Int)) (hjq : j < q) (hq4 : q < 4) : SpI G mX4_stride .int 0 0 0 0 [vi zj, vi zq] K N I (qI K N I (st5 q j)) := by
  refine SpI.of (own := RX4) (cc := cX4_stride) (L := [some (vi zj), some (vi zq), none, none]) (by decide) rfl rfl (Nat.le_of_ble_eq_true rfl) rfl (fun Fx hnm hret => ?_)
  have lp : ∀ (m : Nat) (k : Nat) (x y : Int), k ≤ q → q < k + m → j < k → x = (k : Int) → y = (5 : Int) ^ (k - 1 - j) → XX G RX4 cX4_stride (RmW 0 0 0 0) Fx 6 [some (vi zj), some (vi zq), some (vi y), some (vi x)] [] K N I 0 0 := by
    intro m
    induction m with
    | zero => intros; exfalso; omega
    | succ m ih =>
      intro k x y h0 h1 hk h2 h3
      refine x_iload_n dX4_stride_6 rfl ?_
      refine x_iload_n dX4_stride_7 rfl ?_
      refine x_icmp_ge 21 dX4_stride_8 (by decide) (by unfold inr; omega) (by unfold inr; omega) (fun h_8 => ?_) (fun h_8 => ?_)
      · refine x_iload_n dX4_stride_21 rfl ?_
        refine hret _ _ _ _ _ _ dX4_stride_22 rfl ?_
        obtain rfl : k = q := by omega
        exact ⟨rfl, rfl, rfl, h3⟩
      · refine x_iload_n dX4_stride_11 rfl ?_
        refine x_iconst dX4_stride_12 ?_
        refine x_imul dX4_stride_13 ?_
        refine x_ist2 dX4_stride_14 ?_
        refine x_inc3 dX4_stride_15 ?_
        refine x_goto 6 dX4_stride_18 (by decide) ?_
        refine ih (k + 1) _ _ (by omega) (by omega) (by omega) (by omega) ?_
        rw [h3, show k + 1 - 1 - j = (k - 1 - j) + 1 by omega, Int.pow_succ]
  refine x_iconst dX4_stride_0 ?_
  refine x_ist2 dX4_stride_1 ?_
  refine x_iload_n dX4_stride_2 rfl ?_
  refine x_iconst dX4_stride_3 ?_
  refine x_iadd dX4_stride_4 ?_
  refine x_ist3 dX4_stride_5 ?_
  exact lp (q + 1) (j + 1) _ _ (by omega) (by omega) (by omega) (by omega) (by rw [show j + 1 - 1 - j = 0 by omega]; rfl)
theorem sp_choice {zr zs : Int} (h1 : 0 ≤ zr ∧ zr < 1000) (h2 : 0 < zs ∧ zs ≤ 25) (h3 : 0 ≤ zr / zs ∧ zr / zs ≤ 125) : SpI G mX4_choice .int 0 0 0 0 [vi zr, vi zs] K N I (qI K N I (zr / zs % 5)) := by
  refine SpI.of (own := RX4) (cc := cX4_choice) (L := [some (vi zr), some (vi zs)]) (by decide) rfl rfl (Nat.le_of_ble_eq_true rfl) rfl (fun Fx hnm hret => ?_)
  refine x_iload_n dX4_choice_0 rfl ?_
  refine x_iconst dX4_choice_1 ?_
  refine x_icmp_ge 9 dX4_choice_2 (by decide) (by unfold inr; omega) (by unfold inr; omega) (fun h_2 => ?_) (fun h_2 => ?_)
  · refine x_iload_n dX4_choice_9 rfl ?_
    refine x_iload_n dX4_choice_10 rfl ?_
    refine x_idiv dX4_choice_11 (by unfold inr; omega) (by unfold inr; omega) ?_
    refine x_iconst dX4_choice_12 ?_
    refine x_irem dX4_choice_13 (by unfold inr; omega) (by unfold inr; omega) ?_
    refine hret _ _ _ _ _ _ dX4_choice_14 rfl ?_
    exact ⟨rfl, rfl, rfl, rfl⟩
  · exfalso; omega
theorem sp_weighRows (hN : NS N) (hB : RB I 1 n) (q : Nat) (hq0 : 0 < q) (hq4 : q < 4) {c : Nat → Nat} (hc : ∀ j, j < q → I 33 j = (c j : Int) ∧ c j < n) {zq : Int} (hzq : zq = (q : Int)) : SpI G mX4_weighRows .int 3 69 0 0 [.ref 0, vi zq] K N I (pI K N (fun z J => z = ((5 ^ q : Nat) : Int) ∧ (∀ r, r < 5 ^ q → ∀ j, j < q → J 34 (3 * r + j) = gn5 (fa I 1) (l0R I 1 0) q c r j) ∧ kpC I J ∧ ∀ b, J 33 b = I 33 b)) := by
  refine SpI.of (own := RX4) (cc := cX4_weighRows) (L := [some (.ref 0), some (vi zq), none, none, none, none]) (by decide) rfl rfl (Nat.le_of_ble_eq_true rfl) rfl (fun Fx hnm hret => ?_)
  have hn9 := hB.2.2.1
  obtain ⟨hm5, h125⟩ := mn5 q hq4 hq0
  obtain ⟨F, hF⟩ : ∃ F, F = fa I 1 := ⟨_, rfl⟩
  obtain ⟨l0, hl0⟩ : ∃ l0, l0 = l0R I 1 0 := ⟨_, rfl⟩
  obtain ⟨T, hT⟩ : ∃ T : Nat, T = 5 ^ q := ⟨_, rfl⟩
  rw [← hT] at hm5 h125
  rw [← hF, ← hl0] at hret
  have lp : ∀ (m r : Nat) (x : Int) (J : MM), r ≤ T → T < r + m → x = (r : Int) → kpC I J → (∀ b, J 33 b = I 33 b) → RB J 6 n → l0R J 6 0 = l0 → (∀ d, wfc (fa J 6) c d q = wfc F c d q) → (∀ r', r' < r → ∀ j, j < q → J 34 (3 * r' + j) = gn5 F l0 q c r' j) → XX G RX4 cX4_weighRows (RmW 3 69 0 0) Fx 26 [some (.ref 0), some (vi zq), some (vi (T : Int)), some (vi x), none, none] [] K N J 0 0 := by
    intro m
    induction m with
    | zero => intros; exfalso; omega
    | succ m ih =>
      intro r x J h0 h1 h2 h3 h4 h5 h6 h7 h8
      refine x_iload_n dX4_weighRows_26 rfl ?_
      refine x_iload_n dX4_weighRows_27 rfl ?_
      refine x_icmp_ge 149 dX4_weighRows_28 (by decide) (by unfold inr; omega) (by unfold inr; omega) (fun h_28 => ?_) (fun h_28 => ?_)
      · refine x_iload_n dX4_weighRows_149 rfl ?_
        refine hret _ _ _ _ _ _ dX4_weighRows_150 rfl ?_
        obtain rfl : r = T := by omega
        exact ⟨rfl, rfl, by rw [hT], by rw [← hT]; exact h8, h3, h4⟩
      · refine x_iconst dX4_weighRows_31 ?_
        refine x_ist4 dX4_weighRows_32 ?_
        obtain ⟨W, hW⟩ : ∃ W, W = wfc F c (dg5 q r) q := ⟨_, rfl⟩
        have hrT : r < 5 ^ q := by omega
        have lp2 : ∀ (m2 : Nat) (j : Nat) (y : Int) (J : MM), j ≤ q → q < j + m2 → y = (j : Int) → kpC I J → (∀ b, J 33 b = I 33 b) → RB J 6 n → l0R J 6 0 = l0 → fa J 6 = W → (∀ g, g < n → J 16 g = tok W 0 l0 g) → (∀ r', r' < r → ∀ j, j < q → J 34 (3 * r' + j) = gn5 F l0 q c r' j) → (∀ j', j' < j → J 34 (3 * r + j') = gn5 F l0 q c r j') → XX G RX4 cX4_weighRows (RmW 3 69 0 0) Fx 86 [some (.ref 0), some (vi zq), some (vi (T : Int)), some (vi x), some (vi y), none] [] K N J 0 0 := by
          intro m2
          induction m2 with
          | zero => intros; exfalso; omega
          | succ m2 ih2 =>
            intro j y J g0 g1 g2 g3 g4 g5 g6 g7 g8 g9 g10
            have hcj : j < q → _ := fun hj => hc j hj
            refine x_iload dX4_weighRows_86 rfl ?_
            refine x_iload_n dX4_weighRows_88 rfl ?_
            refine x_icmp_ge 143 dX4_weighRows_89 (by decide) (by unfold inr; omega) (by unfold inr; omega) (fun h_89 => ?_) (fun h_89 => ?_)
            · refine x_inc3 dX4_weighRows_143 ?_
              refine x_goto 26 dX4_weighRows_146 (by decide) ?_
              obtain rfl : j = q := by omega
              refine x_dr4 (ih (r + 1) _ _ (by omega) (by omega) (by omega) g3 g4 g5 g6 ?_ ?_)
              · intro d
                rw [g7, hW]; exact wfc_wfc
              · intro r' hr' j' hj'
                rcases (by omega : r' < r ∨ r' = r) with z | rfl
                · exact g9 r' z j' hj'
                · exact g10 j' hj'
            · refine x_aload_n dX4_weighRows_92 rfl ?_
              refine x_getR (j := 33) dX4_weighRows_93 gf_RX4_51 rfl rfl (hN _ _ (by decide)) ?_
              refine x_iload dX4_weighRows_96 rfl ?_
              refine x_iald (j) dX4_weighRows_98 rfl (by omega) (show _ < 3 by omega) ?_
              rw [g4, (hcj (by omega)).1]
              have hcj2 := (hcj (by omega)).2
              refine x_ist5 dX4_weighRows_99 ?_
              refine x_aload_n dX4_weighRows_101 rfl ?_
              refine x_getR (j := 34) dX4_weighRows_102 gf_RX4_54 rfl rfl (hN _ _ (by decide)) ?_
              refine x_iload_n dX4_weighRows_105 rfl ?_
              refine x_iconst dX4_weighRows_106 ?_
              refine x_imul dX4_weighRows_107 ?_
              refine x_iload dX4_weighRows_108 rfl ?_
              refine x_iadd dX4_weighRows_110 ?_
              refine x_iconst dX4_weighRows_111 ?_
              refine x_aload_n dX4_weighRows_112 rfl ?_
              refine x_getR (j := 15) dX4_weighRows_113 gf_RX4_30 rfl rfl (hN _ _ (by decide)) ?_
              refine x_getR (j := 16) dX4_weighRows_116 gf_RX4_139 rfl rfl (hN _ _ (by decide)) ?_
              refine x_iload dX4_weighRows_119 rfl ?_
              refine x_iald (c j) dX4_weighRows_121 rfl (by omega) (show _ < 9 by omega) ?_
              rw [g8 _ hcj2]
              refine x_imul dX4_weighRows_122 ?_
              refine x_iconst dX4_weighRows_123 ?_
              refine x_aload_n dX4_weighRows_124 rfl ?_
              refine x_getR (j := 6) dX4_weighRows_125 gf_RX4_16 rfl rfl (hN _ _ (by decide)) ?_
              refine x_iload dX4_weighRows_128 rfl ?_
              refine x_iconst dX4_weighRows_130 ?_
              refine xf_VI2 dX4_weighRows_131 ml_RX4_79 vw_X3_fact vv_X3_fact rfl (sp_fact (b := 6) rfl hN (c j) 1 rfl rfl (by omega)) ⟨Nat.le_of_ble_eq_true rfl, Nat.le_of_ble_eq_true rfl, Nat.le_of_ble_eq_true rfl, Nat.le_of_ble_eq_true rfl, Nat.le_of_ble_eq_true rfl⟩ ?_
              rw [g7]
              refine x_imul dX4_weighRows_134 ?_
              refine x_isub dX4_weighRows_135 ?_
              refine x_iast (3 * r + j) dX4_weighRows_136 rfl (by omega) (show _ < 375 by omega) ?_
              refine x_inc4 dX4_weighRows_137 ?_
              refine x_goto 86 dX4_weighRows_140 (by decide) ?_
              refine x_dr5 (ih2 (j + 1) _ _ (by omega) (by omega) (by omega) (g3.upc (by omega)) (fun b => by rw [up_n1 (by omega)]; exact g4 b) (g5.of (up_n1 (by omega)) (fa_eq (fun _ => up_n1 (by omega))) (fun _ _ => up_n1 (by omega))) ((l0_eq (fun _ => up_n1 (by omega))).trans g6) ((fa_eq (fun _ => up_n1 (by omega))).trans g7) (fun g hg => by rw [up_n1 (by omega)]; exact g8 g hg) ?_ ?_)
              · intro r' hr' j' hj'
                rw [up_n2 (by omega)]; exact g9 r' hr' j' hj'
              · intro j' hj'
                by_cases e : j' = j
                · subst e
                  rw [up_s, hW]; rfl
                · rw [up_n2 (by omega)]; exact g10 j' (by omega)
        have lp3 : ∀ (m3 : Nat) (j : Nat) (y : Int) (J2 : MM), j ≤ q → q < j + m3 → y = (j : Int) → kpC I J2 → (∀ b, J2 33 b = I 33 b) → RB J2 6 n → l0R J2 6 0 = l0 → fa J2 6 = wfc (fa J 6) c (dg5 q r) j → (∀ r', r' < r → ∀ j, j < q → J2 34 (3 * r' + j) = gn5 F l0 q c r' j) → XX G RX4 cX4_weighRows (RmW 3 69 0 0) Fx 34 [some (.ref 0), some (vi zq), some (vi (T : Int)), some (vi x), some (vi y), none] [] K N J2 0 0 := by
          intro m3
          induction m3 with
          | zero => intros; exfalso; omega
          | succ m3 ih3 =>
            intro j y J2 g0 g1 g2 g3 g4 g5 g6 g7 g9
            have hcj : j < q → _ := fun hj => hc j hj
            have hsb : j < q → _ := fun hj => st5_b q hq4 j hj
            have hrb : j < q → _ := fun hj => rb5_all q hq4 j hj r hrT
            have hdb := dg5_b (q := q) (row := r) (j := j)
            refine x_iload dX4_weighRows_34 rfl ?_
            refine x_iload_n dX4_weighRows_36 rfl ?_
            refine x_icmp_ge 71 dX4_weighRows_37 (by decide) (by unfold inr; omega) (by unfold inr; omega) (fun h_37 => ?_) (fun h_37 => ?_)
            · obtain rfl : j = q := by omega
              have hJW : fa J2 6 = W := by rw [g7, h7, hW]
              refine x_aload_n dX4_weighRows_71 rfl ?_
              refine x_getR (j := 15) dX4_weighRows_72 gf_RX4_30 rfl rfl (hN _ _ (by decide)) ?_
              refine x_aload_n dX4_weighRows_75 rfl ?_
              refine x_getR (j := 6) dX4_weighRows_76 gf_RX4_16 rfl rfl (hN _ _ (by decide)) ?_
              refine x_iconst dX4_weighRows_79 ?_
              refine xf_VV2 dX4_weighRows_80 ml_RX4_135 vw_X2_flow vv_X2_flow rfl (sp_flow (b := 6) (c := 15) rfl rfl hN g5 (by unfold inr; omega)) ⟨Nat.le_of_ble_eq_true rfl, Nat.le_of_ble_eq_true rfl, Nat.le_of_ble_eq_true rfl, Nat.le_of_ble_eq_true rfl, Nat.le_of_ble_eq_true rfl⟩ ?_
              refine x_iconst dX4_weighRows_83 ?_
              refine x_ist4 dX4_weighRows_84 ?_
              refine lp2 (j + 1) 0 _ _ (by omega) (by omega) rfl (g3.fw (by omega)) (fun b => by rw [fw_o (by omega)]; exact g4 b) (g5.of (fw_o (by omega)) (fa_eq (fun _ => fw_o (by omega))) (fun _ _ => fw_o (by omega))) ((l0_eq (fun _ => fw_o (by omega))).trans g6) ((fa_eq (fun _ => fw_o (by omega))).trans hJW) (fun g hg => ?_) (fun r' hr' j' hj' => by rw [fw_o (by omega)]; exact g9 r' hr' j' hj') (fun j' hj' => absurd hj' (Nat.not_lt_zero j'))
              rw [show fwJ J2 6 15 0 n 16 g = _ from fw_t hg, hJW, g6]
            · refine x_aload_n dX4_weighRows_40 rfl ?_
              refine x_getR (j := 6) dX4_weighRows_41 gf_RX4_16 rfl rfl (hN _ _ (by decide)) ?_
              refine x_aload_n dX4_weighRows_44 rfl ?_
              refine x_getR (j := 33) dX4_weighRows_45 gf_RX4_51 rfl rfl (hN _ _ (by decide)) ?_
              refine x_iload dX4_weighRows_48 rfl ?_
              refine x_iald (j) dX4_weighRows_50 rfl (by omega) (show _ < 3 by omega) ?_
              rw [g4, (hcj (by omega)).1]
              have hcj2 := (hcj (by omega)).2
              have hsb2 := hsb (by omega)
              have hrb2 := hrb (by omega)
              rw [← h2] at hrb2
              refine x_iconst dX4_weighRows_51 ?_
              refine x_iload_n dX4_weighRows_52 rfl ?_
              refine x_iload dX4_weighRows_53 rfl ?_
              refine x_iload_n dX4_weighRows_55 rfl ?_
              refine xf_SI2 dX4_weighRows_56 ml_RX4_257 vw_X4_stride st_X4_stride (sp_stride q j g2 hzq (by omega) hq4) ⟨Nat.le_of_ble_eq_true rfl, Nat.le_of_ble_eq_true rfl, Nat.le_of_ble_eq_true rfl, Nat.le_of_ble_eq_true rfl, Nat.le_of_ble_eq_true rfl⟩ ?_
              refine xf_SI2 dX4_weighRows_59 ml_RX4_263 vw_X4_choice st_X4_choice (sp_choice (by omega) hsb2 hrb2.1) ⟨Nat.le_of_ble_eq_true rfl, Nat.le_of_ble_eq_true rfl, Nat.le_of_ble_eq_true rfl, Nat.le_of_ble_eq_true rfl, Nat.le_of_ble_eq_true rfl⟩ ?_
              refine x_eqV (b := dg5 q r j) (by unfold dg5; rw [h2]) ?_
              refine xf_VV3 dX4_weighRows_62 ml_RX4_83 vw_X3_put vv_X3_put rfl (sp_put (b := 6) rfl hN (c j) 1 rfl rfl (by omega)) ⟨Nat.le_of_ble_eq_true rfl, Nat.le_of_ble_eq_true rfl, Nat.le_of_ble_eq_true rfl, Nat.le_of_ble_eq_true rfl, Nat.le_of_ble_eq_true rfl⟩ ?_
              refine x_inc4 dX4_weighRows_65 ?_
              refine x_goto 34 dX4_weighRows_68 (by decide) ?_
              refine ih3 (j + 1) _ _ (by omega) (by omega) (by omega) (g3.upc (by omega)) (fun b => by rw [up_n1 (by omega)]; exact g4 b) (g5.put (by omega) (by unfold okF; omega)) ((l0_eq (fun _ => up_n1 (by omega))).trans g6) ?_ (fun r' hr' j' hj' => by rw [up_n1 (by omega)]; exact g9 r' hr' j' hj')
              rw [fa_put (by omega), g7]; rfl
        exact lp3 (q + 1) 0 _ _ (by omega) (by omega) rfl h3 h4 h5 h6 rfl h8
  refine x_aload_n dX4_weighRows_0 rfl ?_
  refine x_getR (j := 6) dX4_weighRows_1 gf_RX4_16 rfl rfl (hN _ _ (by decide)) ?_
  refine x_aload_n dX4_weighRows_4 rfl ?_
  refine x_getR (j := 1) dX4_weighRows_5 gf_RX4_10 rfl rfl (hN _ _ (by decide)) ?_
  refine xf_VV1 dX4_weighRows_8 ml_RX4_125 vw_X3_copy vv_X3_copy rfl (sp_copy (s := 1) (d := 6) rfl rfl (by decide) hN) ⟨Nat.le_of_ble_eq_true rfl, Nat.le_of_ble_eq_true rfl, Nat.le_of_ble_eq_true rfl, Nat.le_of_ble_eq_true rfl, Nat.le_of_ble_eq_true rfl⟩ ?_
  refine x_bipush dX4_weighRows_11 (by decide) ?_
  refine x_iconst dX4_weighRows_13 ?_
  refine x_iconst dX4_weighRows_14 ?_
  refine x_iload_n dX4_weighRows_15 rfl ?_
  refine xf_SI2 dX4_weighRows_16 ml_RX4_257 vw_X4_stride st_X4_stride (sp_stride q 0 rfl hzq hq0 hq4) ⟨Nat.le_of_ble_eq_true rfl, Nat.le_of_ble_eq_true rfl, Nat.le_of_ble_eq_true rfl, Nat.le_of_ble_eq_true rfl, Nat.le_of_ble_eq_true rfl⟩ ?_
  have hsb := st5_b q hq4 0 hq0
  refine x_imul dX4_weighRows_19 ?_
  refine x_min dX4_weighRows_20 ml_RX4_260 st_mmin ini_java_lang_Math cd_mmin (by unfold inr; omega) (by unfold inr; omega) ⟨Nat.le_of_ble_eq_true rfl, Nat.le_of_ble_eq_true rfl, Nat.le_of_ble_eq_true rfl, Nat.le_of_ble_eq_true rfl⟩ ?_
  rw [hm5]
  refine x_ist2 dX4_weighRows_23 ?_
  refine x_iconst dX4_weighRows_24 ?_
  refine x_ist3 dX4_weighRows_25 ?_
  refine lp (T + 1) 0 _ _ (by omega) (by omega) rfl (kpC.rf.cp (by omega)) (fun b => cp_o (by omega)) hB.cp (by rw [hl0]; exact l0_cp) (fun d => ?_) (fun r' hr' => absurd hr' (Nat.not_lt_zero r'))
  rw [show fa (cpR I 1 6) 6 = F from fa_cp.trans hF.symm]
theorem sp_isAtRest (hN : NS N) (q row : Nat) (hq4 : q < 4) (hr : row < 5 ^ q) {g : Nat → Nat → Int} (hg : ∀ r, r < 5 ^ q → ∀ j, j < q → I 34 (3 * r + j) = g r j ∧ inr (g r j)) {zr zq : Int} (hzr : zr = (row : Int)) (hzq : zq = (q : Int)) : SpI G mX4_isAtRest .boolean 1 23 0 0 [.ref 0, vi zr, vi zq] K N I (qI K N I (if rsP g q row then 1 else 0)) := by
  refine SpI.of (own := RX4) (cc := cX4_isAtRest) (L := [some (.ref 0), some (vi zr), some (vi zq), none, none, none, none, none]) (by decide) rfl rfl (Nat.le_of_ble_eq_true rfl) rfl (fun Fx hnm hret => ?_)
  have h125 : 5 ^ q ≤ 125 := Nat.pow_le_pow_right (n := 5) (j := 3) (by decide) (by omega)
  have lp : ∀ (m j : Nat) (x : Int), j ≤ q → q < j + m → x = (j : Int) → (∀ i, i < j → ∀ w, w < 5 → g (r25 q row i w) i ≤ g row i) → XX G RX4 cX4_isAtRest (RmW 1 23 0 0) Fx 2 [some (.ref 0), some (vi zr), some (vi zq), some (vi x), none, none, none, none] [] K N I 0 0 := by
    intro m
    induction m with
    | zero => intros; exfalso; omega
    | succ m ih =>
      intro j x h0 h1 h2 h3
      have hsb : j < q → _ := fun hj => st5_b q hq4 j hj
      have hrb : j < q → _ := fun hj => rb5_all q hq4 j hj row hr
      refine x_iload_n dX4_isAtRest_2 rfl ?_
      refine x_iload_n dX4_isAtRest_3 rfl ?_
      refine x_icmp_ge 84 dX4_isAtRest_4 (by decide) (by unfold inr; omega) (by unfold inr; omega) (fun h_4 => ?_) (fun h_4 => ?_)
      · refine x_iconst dX4_isAtRest_84 ?_
        refine hret _ _ _ _ _ _ dX4_isAtRest_85 rfl ?_
        obtain rfl : j = q := by omega
        exact ⟨rfl, rfl, rfl, by rw [if_pos h3]⟩
      · refine x_iload_n dX4_isAtRest_7 rfl ?_
        refine x_iload_n dX4_isAtRest_8 rfl ?_
        refine xf_SI2 dX4_isAtRest_9 ml_RX4_257 vw_X4_stride st_X4_stride (sp_stride q j h2 hzq (by omega) hq4) ⟨Nat.le_of_ble_eq_true rfl, Nat.le_of_ble_eq_true rfl, Nat.le_of_ble_eq_true rfl, Nat.le_of_ble_eq_true rfl, Nat.le_of_ble_eq_true rfl⟩ ?_
        have hjq : j < q := by omega
        have hsb2 := hsb hjq
        have hrb2 := hrb hjq
        rw [← hzr] at hrb2
        refine x_ist4 dX4_isAtRest_12 ?_
        refine x_iload_n dX4_isAtRest_14 rfl ?_
        refine x_iload_n dX4_isAtRest_15 rfl ?_
        refine x_iload dX4_isAtRest_16 rfl ?_
        refine xf_SI2 dX4_isAtRest_18 ml_RX4_263 vw_X4_choice st_X4_choice (sp_choice (by omega) hsb2 hrb2.1) ⟨Nat.le_of_ble_eq_true rfl, Nat.le_of_ble_eq_true rfl, Nat.le_of_ble_eq_true rfl, Nat.le_of_ble_eq_true rfl, Nat.le_of_ble_eq_true rfl⟩ ?_
        refine x_iload dX4_isAtRest_21 rfl ?_
        refine x_imul dX4_isAtRest_23 ?_
        refine x_isub dX4_isAtRest_24 ?_
        refine x_ist5 dX4_isAtRest_25 ?_
        refine x_iconst dX4_isAtRest_27 ?_
        refine x_ist6 dX4_isAtRest_28 ?_
        obtain ⟨st, hst⟩ : ∃ st, st = st5 q j := ⟨_, rfl⟩
        rw [← hst]
        have lp2 : ∀ (m2 : Nat) (u : Nat) (y : Int), u ≤ 5 → 5 < u + m2 → y = (u : Int) → (∀ w, w < u → g (r25 q row j w) j ≤ g row j) → XX G RX4 cX4_isAtRest (RmW 1 23 0 0) Fx 30 [some (.ref 0), some (vi zr), some (vi zq), some (vi x), some (vi st), some (vi (zr - zr / st % 5 * st)), some (vi y), none] [] K N I 0 0 := by
          intro m2
          induction m2 with
          | zero => intros; exfalso; omega
          | succ m2 ih2 =>
            intro u y g0 g1 g2 g3
            have hr2 : u < 5 → _ := fun hu => r25_all q hq4 j hjq row hr u hu
            rw [← hzr, ← hst, ← g2] at hr2
            refine x_iload dX4_isAtRest_30 rfl ?_
            refine x_iconst dX4_isAtRest_32 ?_
            refine x_icmp_ge 78 dX4_isAtRest_33 (by decide) (by unfold inr; omega) (by unfold inr; omega) (fun h_33 => ?_) (fun h_33 => ?_)
            · refine x_inc3 dX4_isAtRest_78 ?_
              refine x_goto 2 dX4_isAtRest_81 (by decide) ?_
              obtain rfl : u = 5 := by omega
              refine x_dr4 (x_dr5 (x_dr6 (ih (j + 1) _ (by omega) (by omega) (by omega) ?_)))
              intro i hi w hw
              rcases (by omega : i < j ∨ i = j) with z | rfl
              · exact h3 i z w hw
              · exact g3 w hw
            · obtain ⟨e0, e3⟩ := hr2 (by omega)
              have e1 := hg _ e3 j hjq
              have e2 := hg row hr j hjq
              refine x_iload dX4_isAtRest_36 rfl ?_
              refine x_iload dX4_isAtRest_38 rfl ?_
              refine x_iload dX4_isAtRest_40 rfl ?_
              refine x_imul dX4_isAtRest_42 ?_
              refine x_iadd dX4_isAtRest_43 ?_
              rw [e0]
              refine x_ist7 dX4_isAtRest_44 ?_
              refine x_aload_n dX4_isAtRest_46 rfl ?_
              refine x_getR (j := 34) dX4_isAtRest_47 gf_RX4_54 rfl rfl (hN _ _ (by decide)) ?_
              refine x_iload dX4_isAtRest_50 rfl ?_
              refine x_iconst dX4_isAtRest_52 ?_
              refine x_imul dX4_isAtRest_53 ?_
              refine x_iload_n dX4_isAtRest_54 rfl ?_
              refine x_iadd dX4_isAtRest_55 ?_
              refine x_iald (3 * r25 q row j u + j) dX4_isAtRest_56 rfl (by omega) (show _ < 375 by omega) ?_
              rw [e1.1]
              refine x_aload_n dX4_isAtRest_57 rfl ?_
              refine x_getR (j := 34) dX4_isAtRest_58 gf_RX4_54 rfl rfl (hN _ _ (by decide)) ?_
              refine x_iload_n dX4_isAtRest_61 rfl ?_
              refine x_iconst dX4_isAtRest_62 ?_
              refine x_imul dX4_isAtRest_63 ?_
              refine x_iload_n dX4_isAtRest_64 rfl ?_
              refine x_iadd dX4_isAtRest_65 ?_
              refine x_iald (3 * row + j) dX4_isAtRest_66 rfl (by omega) (show _ < 375 by omega) ?_
              rw [e2.1]
              refine x_icmp_le 72 dX4_isAtRest_67 (by decide) e1.2 e2.2 (fun h_67 => ?_) (fun h_67 => ?_)
              · refine x_inc6 dX4_isAtRest_72 ?_
                refine x_goto 30 dX4_isAtRest_75 (by decide) ?_
                refine x_dr7 (ih2 (u + 1) _ (by omega) (by omega) (by omega) ?_)
                intro w hw
                rcases (by omega : w < u ∨ w = u) with z | rfl
                · exact g3 w z
                · omega
              · refine x_iconst dX4_isAtRest_70 ?_
                refine hret _ _ _ _ _ _ dX4_isAtRest_71 rfl ?_
                refine ⟨rfl, rfl, rfl, ?_⟩
                rw [if_neg]
                intro z
                have z2 := z j hjq u (by omega)
                omega
        exact lp2 6 0 _ (by omega) (by omega) rfl (fun w hw => absurd hw (Nat.not_lt_zero w))
  refine x_iconst dX4_isAtRest_0 ?_
  refine x_ist3 dX4_isAtRest_1 ?_
  exact lp (q + 1) 0 _ (by omega) (by omega) rfl (fun i hi => absurd hi (Nat.not_lt_zero i))
theorem sp_asDigits {z : Int} (row : Nat) (hz : z = (row : Int)) (hr : row < 1000) : SpI G mX4_asDigits .int 0 0 0 0 [vi z] K N I (qI K N I (asD row)) := by
  refine SpI.of (own := RX4) (cc := cX4_asDigits) (L := [some (vi z)]) (by decide) rfl rfl (Nat.le_of_ble_eq_true rfl) rfl (fun Fx hnm hret => ?_)
  refine x_iload_n dX4_asDigits_0 rfl ?_
  refine x_bipush dX4_asDigits_1 (by decide) ?_
  refine x_idiv dX4_asDigits_3 (by unfold inr; omega) (by unfold inr; omega) ?_
  refine x_bipush dX4_asDigits_4 (by decide) ?_
  refine x_imul dX4_asDigits_6 ?_
  refine x_iload_n dX4_asDigits_7 rfl ?_
  refine x_iconst dX4_asDigits_8 ?_
  refine x_idiv dX4_asDigits_9 (by unfold inr; omega) (by unfold inr; omega) ?_
  refine x_iconst dX4_asDigits_10 ?_
  refine x_irem dX4_asDigits_11 (by unfold inr; omega) (by unfold inr; omega) ?_
  refine x_bipush dX4_asDigits_12 (by decide) ?_
  refine x_imul dX4_asDigits_14 ?_
  refine x_iadd dX4_asDigits_15 ?_
  refine x_iload_n dX4_asDigits_16 rfl ?_
  refine x_iconst dX4_asDigits_17 ?_
  refine x_irem dX4_asDigits_18 (by unfold inr; omega) (by unfold inr; omega) ?_
  refine x_iadd dX4_asDigits_19 ?_
  refine hret _ _ _ _ _ _ dX4_asDigits_20 rfl ?_
  exact ⟨rfl, rfl, rfl, by unfold asD; rw [hz]⟩
theorem sp_rests (hN : NS N) (hB : RB I 1 n) {s i : Int} (hs : inr s) (hi : inr i) : SpI G mX4_rests .int 4 94 0 0 [.ref 0, vi s, vi i] K N I (pI K N (fun z J => z = (if 0 < s ∧ s < ((2 ^ n : Nat) : Int) then reA (fa I 1) (l0R I 1 0) n s.toNat i else -2) ∧ kpC I J)) := by
  refine SpI.of (own := RX4) (cc := cX4_rests) (L := [some (.ref 0), some (vi s), some (vi i), none, none, none]) (by decide) rfl rfl (Nat.le_of_ble_eq_true rfl) rfl (fun Fx hnm hret => ?_)
  have hn9 := hB.2.2.1
  have h0n : 0 ≤ ((2 ^ n : Nat) : Int) := Int.natCast_nonneg _
  have h512 : 2 ^ n ≤ 512 := Nat.pow_le_pow_right (n := 2) (j := 9) (by decide) hn9
  refine x_iload_n dX4_rests_0 rfl ?_
  refine x_if_le 17 dX4_rests_1 (by decide) hs (fun h_1 => ?_) (fun h_1 => ?_)
  · refine x_bipush dX4_rests_17 (by decide) ?_
    refine hret _ _ _ _ _ _ dX4_rests_19 rfl ?_
    refine ⟨rfl, rfl, ?_, kpC.rf⟩
    first
    | rw [if_neg (by omega)]
    | (rw [if_pos (by omega), show ((s : Nat) : Int).toNat = s from rfl]; unfold reA; rw [if_pos (by omega)])
  · refine x_iload_n dX4_rests_4 rfl ?_
    refine x_iconst dX4_rests_5 ?_
    refine x_aload_n dX4_rests_6 rfl ?_
    refine x_getR (j := 1) dX4_rests_7 gf_RX4_10 rfl rfl (hN _ _ (by decide)) ?_
    refine x_getI dX4_rests_10 gf_RX4_60 rfl rfl ?_
    rw [hB.1]
    refine x_ishl ((2 ^ n : Nat) : Int) dX4_rests_13 (shl_all n (by omega)) ?_
    refine x_icmp_lt 20 dX4_rests_14 (by decide) hs (by unfold inr; omega) (fun h_14 => ?_) (fun h_14 => ?_)
    · obtain ⟨s, rfl⟩ := toN (show 0 ≤ s by omega)
      have hs5 : s < 512 := by omega
      have hol := onL_len (s := s) (k := n)
      have hbc := bc_all s hs5
      rw [on_all n (by omega) s (by omega)] at hbc
      refine x_iload_n dX4_rests_20 rfl ?_
      refine xf_SI1 dX4_rests_21 ml_RX4_203 vw_J6_bitCount_0f7a4 st_J6_bitCount_0f7a4 (sp_bitCount) ⟨Nat.le_of_ble_eq_true rfl, Nat.le_of_ble_eq_true rfl, Nat.le_of_ble_eq_true rfl, Nat.le_of_ble_eq_true rfl, Nat.le_of_ble_eq_true rfl⟩ ?_
      rw [hbc]
      refine x_iconst dX4_rests_24 ?_
      refine x_icmp_le 31 dX4_rests_25 (by decide) (by unfold inr; omega) (by unfold inr; omega) (fun h_25 => ?_) (fun h_25 => ?_)
      · have hq0 : 0 < (onL s n).length := by
          have := on0_all n (by omega) s (by omega) (by omega)
          omega
        refine x_aload_n dX4_rests_31 rfl ?_
        refine x_iload_n dX4_rests_32 rfl ?_
        refine xp_VI1 dX4_rests_33 ml_RX4_208 vw_X4_gather vv_X4_gather rfl (sp_gather hN hB.1 hn9 hs5 (by omega) rfl) ⟨Nat.le_of_ble_eq_true rfl, Nat.le_of_ble_eq_true rfl, Nat.le_of_ble_eq_true rfl, Nat.le_of_ble_eq_true rfl, Nat.le_of_ble_eq_true rfl⟩ (fun z1 I1 hq => ?_)
        obtain ⟨hz1, hc0, hk33⟩ := hq
        rw [hz1]
        refine x_ist3 dX4_rests_36 ?_
        refine x_aload_n dX4_rests_37 rfl ?_
        have hk1 : kpC I I1 := fun a b q => hk33 a b (by unfold pcl at q; omega)
        have hB1 : RB I1 1 n := hB.of (hk33 1 0 (by omega)) (fa_eq (fun _ => hk33 _ _ (by omega))) (fun _ _ => hk33 _ _ (by omega))
        have hF1 : fa I1 1 = fa I 1 := fa_eq (fun _ => hk33 _ _ (by omega))
        have hL1 : l0R I1 1 0 = l0R I 1 0 := l0_eq (fun _ => hk33 _ _ (by omega))
        refine x_iload_n dX4_rests_38 rfl ?_
        refine xp_VI1 dX4_rests_39 ml_RX4_211 vw_X4_weighRows vv_X4_weighRows rfl (sp_weighRows hN hB1 (onL s n).length hq0 (by omega) (c := fun j => (onL s n).getD j 0) (fun j hj => ⟨hc0 j hj, onL_g hj⟩) rfl) ⟨Nat.le_of_ble_eq_true rfl, Nat.le_of_ble_eq_true rfl, Nat.le_of_ble_eq_true rfl, Nat.le_of_ble_eq_true rfl, Nat.le_of_ble_eq_true rfl⟩ (fun z1 I1 hq => ?_)
        obtain ⟨hz2, hg, hk2, hk34⟩ := hq
        rw [hz2]
        rw [hF1, hL1] at hg
        refine x_ist4 dX4_rests_42 ?_
        refine x_aload_n dX4_rests_44 rfl ?_
        refine x_iconst dX4_rests_45 ?_
        refine x_putI dX4_rests_46 pf_RX4_190 rfl rfl ?_
        refine x_iconst dX4_rests_49 ?_
        refine x_ist5 dX4_rests_50 ?_
        obtain ⟨q, hq⟩ : ∃ q, q = (onL s n).length := ⟨_, rfl⟩
        obtain ⟨g, hg0⟩ : ∃ g, g = gn5 (fa I 1) (l0R I 1 0) q (fun j => (onL s n).getD j 0) := ⟨_, rfl⟩
        rw [← hq, ← hg0] at hg
        rw [← hq]
        rw [← hq] at hq0
        have hq4 : q < 4 := by omega
        have h125 : 5 ^ q ≤ 125 := Nat.pow_le_pow_right (n := 5) (j := 3) (by decide) (by omega)
        obtain ⟨T, hT⟩ : ∃ T : Nat, T = 5 ^ q := ⟨_, rfl⟩
        have hgi : ∀ r j, j < q → inr (g r j) := fun r j hj => by
          rw [hg0]
          exact gn5_b hB (c := fun j => (onL s n).getD j 0) (fun j hj => onL_g (by omega)) (by omega)
        rw [← hT] at hg h125
        rw [← hT]
        have lp : ∀ (m : Nat) (r : Nat) (y : Int) (J : MM), r ≤ T → T < r + m → y = (r : Int) → FD J (reL g q r) → (∀ b, J 34 b = I1 34 b) → kpC I J → XX G RX4 cX4_rests (RmW 4 94 0 0) Fx 52 [some (.ref 0), some (vi (s : Int)), some (vi i), some (vi (q : Int)), some (vi (T : Int)), some (vi y)] [] K N J 0 0 := by
          intro m
          induction m with
          | zero => intros; exfalso; omega
          | succ m ih =>
            intro r y J g0 g1 g2 g3 g4 g5
            have hlen : (reL g q r).length ≤ r := clL_len r
            refine x_iload dX4_rests_52 rfl ?_
            refine x_iload dX4_rests_54 rfl ?_
            refine x_icmp_ge 84 dX4_rests_56 (by decide) (by unfold inr; omega) (by unfold inr; omega) (fun h_56 => ?_) (fun h_56 => ?_)
            · refine x_aload_n dX4_rests_84 rfl ?_
              refine x_iload_n dX4_rests_85 rfl ?_
              refine xf_VI1 dX4_rests_86 ml_RX4_187 vw_X4_foundAt vv_X4_foundAt rfl (sp_foundAt hN g3 (by omega) hi) ⟨Nat.le_of_ble_eq_true rfl, Nat.le_of_ble_eq_true rfl, Nat.le_of_ble_eq_true rfl, Nat.le_of_ble_eq_true rfl, Nat.le_of_ble_eq_true rfl⟩ ?_
              refine hret _ _ _ _ _ _ dX4_rests_89 rfl ?_
              obtain rfl : r = T := by omega
              refine ⟨rfl, rfl, ?_, g5⟩
              rw [if_pos (by omega)]
              unfold reA
              rw [show ((s : Nat) : Int).toNat = s from rfl, ← hq, if_neg (by omega), ← hT, ← hg0]
            · refine x_aload_n dX4_rests_59 rfl ?_
              refine x_iload dX4_rests_60 rfl ?_
              refine x_iload_n dX4_rests_62 rfl ?_
              refine xf_VI2 dX4_rests_63 ml_RX4_214 vw_X4_isAtRest vv_X4_isAtRest rfl (sp_isAtRest hN q r hq4 (by omega) (g := g) (fun r' hr' j hj => ⟨(g4 _).trans (hg r' (by omega) j hj), hgi r' j hj⟩) g2 rfl) ⟨Nat.le_of_ble_eq_true rfl, Nat.le_of_ble_eq_true rfl, Nat.le_of_ble_eq_true rfl, Nat.le_of_ble_eq_true rfl, Nat.le_of_ble_eq_true rfl⟩ ?_
              refine x_if_eq 78 dX4_rests_66 (by decide) (by unfold inr; split <;> omega) (fun h_66 => ?_) (fun h_66 => ?_)
              · replace h_66 := b0 h_66
                refine x_inc5 dX4_rests_78 ?_
                refine x_goto 52 dX4_rests_81 (by decide) ?_
                first
                | (refine ih (r + 1) _ _ (by omega) (by omega) (by omega) ?_ (fun b => by rw [up_n1 (by omega), up_n1 (by omega)]; exact g4 b) ((g5.upc (by omega)).upc (by omega))
                   rw [show reL g q (r + 1) = reL g q r ++ [asD r] from by
                     show clL _ _ r ++ (if decide (rsP g q r) = true then [asD r] else []) = _
                     rw [if_pos (decide_eq_true h_66)]; rfl]
                   exact FD.add g3)
                | (refine ih (r + 1) _ _ (by omega) (by omega) (by omega) ?_ g4 g5
                   rw [show reL g q (r + 1) = reL g q r from by
                     show clL _ _ r ++ (if decide (rsP g q r) = true then [asD r] else []) = _
                     rw [if_neg (by rw [decide_eq_true_iff]; exact h_66), List.append_nil]; rfl]
                   exact g3)
              · replace h_66 := b1 h_66
                refine x_aload_n dX4_rests_69 rfl ?_
                refine x_iload dX4_rests_70 rfl ?_
                refine xf_SI1 dX4_rests_72 ml_RX4_217 vw_X4_asDigits st_X4_asDigits (sp_asDigits r g2 (by omega)) ⟨Nat.le_of_ble_eq_true rfl, Nat.le_of_ble_eq_true rfl, Nat.le_of_ble_eq_true rfl, Nat.le_of_ble_eq_true rfl, Nat.le_of_ble_eq_true rfl⟩ ?_
                refine xf_VV1 dX4_rests_75 ml_RX4_197 vw_X4_note vv_X4_note rfl (sp_note hN g3.1 (by omega)) ⟨Nat.le_of_ble_eq_true rfl, Nat.le_of_ble_eq_true rfl, Nat.le_of_ble_eq_true rfl, Nat.le_of_ble_eq_true rfl, Nat.le_of_ble_eq_true rfl⟩ ?_
                refine x_inc5 dX4_rests_78 ?_
                refine x_goto 52 dX4_rests_81 (by decide) ?_
                first
                | (refine ih (r + 1) _ _ (by omega) (by omega) (by omega) ?_ (fun b => by rw [up_n1 (by omega), up_n1 (by omega)]; exact g4 b) ((g5.upc (by omega)).upc (by omega))
                   rw [show reL g q (r + 1) = reL g q r ++ [asD r] from by
                     show clL _ _ r ++ (if decide (rsP g q r) = true then [asD r] else []) = _
                     rw [if_pos (decide_eq_true h_66)]; rfl]
                   exact FD.add g3)
                | (refine ih (r + 1) _ _ (by omega) (by omega) (by omega) ?_ g4 g5
                   rw [show reL g q (r + 1) = reL g q r from by
                     show clL _ _ r ++ (if decide (rsP g q r) = true then [asD r] else []) = _
                     rw [if_neg (by rw [decide_eq_true_iff]; exact h_66), List.append_nil]; rfl]
                   exact g3)
        refine lp (T + 1) 0 _ _ (by omega) (by omega) rfl ⟨up_s, fun j hj => absurd hj (Nat.not_lt_zero j)⟩ (fun b => up_n1 (by omega)) ((hk1.tr hk2).upc (by omega))
      · refine x_bipush dX4_rests_28 (by decide) ?_
        refine hret _ _ _ _ _ _ dX4_rests_30 rfl ?_
        refine ⟨rfl, rfl, ?_, kpC.rf⟩
        first
        | rw [if_neg (by omega)]
        | (rw [if_pos (by omega), show ((s : Nat) : Int).toNat = s from rfl]; unfold reA; rw [if_pos (by omega)])
    · refine x_bipush dX4_rests_17 (by decide) ?_
      refine hret _ _ _ _ _ _ dX4_rests_19 rfl ?_
      refine ⟨rfl, rfl, ?_, kpC.rf⟩
      first
      | rw [if_neg (by omega)]
      | (rw [if_pos (by omega), show ((s : Nat) : Int).toNat = s from rfl]; unfold reA; rw [if_pos (by omega)])
end FR

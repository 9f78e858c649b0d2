/-! ===== hours: how the water goes ===== -/
def lvs (F : Nat → Nat → Int) (l : Int) (f : Nat) : Int := max 0 (l - F f 5)
def tks (F : Nat → Nat → Int) (kn l : Int) (f : Nat) : Int := if F f 4 ≠ 0 ∨ (kn = 2 ∧ F f 3 ≠ 0) then 0 else min (F f 1) (max 0 (lvs F l f - F f 0))
def lva (F : Nat → Nat → Int) (kn l0 : Int) : Nat → Int
  | 0 => l0
  | f + 1 => lvs F (lva F kn l0 f) f - tks F kn (lva F kn l0 f) f
def sto (F : Nat → Nat → Int) (kn l0 : Int) (f : Nat) : Int := lvs F (lva F kn l0 f) f
def tok (F : Nat → Nat → Int) (kn l0 : Int) (f : Nat) : Int := tks F kn (lva F kn l0 f) f
def fwS (I : MM) (b c : Nat) (kn : Int) (n : Nat) : MM := fun a k => if a = c + 1 ∧ k < n then tok (fa I b) kn (l0R I b kn) k else if a = c + 2 ∧ k < n then sto (fa I b) kn (l0R I b kn) k else I a k
def fwJ (I : MM) (b c : Nat) (kn : Int) (n : Nat) : MM := fun a k => if a = c ∧ k = 2 then lva (fa I b) kn (l0R I b kn) n else fwS I b c kn n a k
theorem lva_b {F : Nat → Nat → Int} {kn l0 M : Int} (h0 : 0 ≤ l0 ∧ l0 ≤ M) : ∀ n : Nat, (∀ f, f < n → (0 ≤ F f 0 ∧ 0 ≤ F f 1 ∧ 0 ≤ F f 5)) → 0 ≤ lva F kn l0 n ∧ lva F kn l0 n ≤ M
  | 0, _ => h0
  | n + 1, h => by
    have ih := lva_b (kn := kn) h0 n (fun f hf => h f (by omega))
    have hn := h n (by omega)
    simp only [lva, lvs, tks]
    split <;> omega
theorem tks_t {F : Nat → Nat → Int} {kn l : Int} {f : Nat} (h : F f 4 ≠ 0 ∨ (kn = 2 ∧ F f 3 ≠ 0)) : 0 = tks F kn l f := by unfold tks; rw [if_pos h]
theorem tks_f {F : Nat → Nat → Int} {kn l : Int} {f : Nat} (h : ¬ (F f 4 ≠ 0 ∨ (kn = 2 ∧ F f 3 ≠ 0))) : min (F f 1) (max 0 (max 0 (l - F f 5) - F f 0)) = tks F kn l f := by unfold tks; rw [if_neg h]; rfl
theorem fwS_succ {I : MM} {b c f : Nat} {kn : Int} (hap : b + 4 < c ∨ c + 2 < b) : up (up (fwS I b c kn f) (c + 2) f (max 0 (lva (fa I b) kn (l0R I b kn) f - fa I b f 5))) (c + 1) f (tks (fa I b) kn (lva (fa I b) kn (l0R I b kn) f) f) = fwS I b c kn (f + 1) := by
  funext a k
  simp only [up, fwS]
  by_cases h1 : a = c + 1
  · subst h1
    by_cases h2 : k = f
    · subst h2; simp [tok]
    · have e : (k < f + 1) = (k < f) := by simp; omega
      simp [h2, e]
  · by_cases h3 : a = c + 2
    · subst h3
      by_cases h2 : k = f
      · subst h2; simp [sto, lvs]
      · have e : (k < f + 1) = (k < f) := by simp; omega
        simp [h2, e]
    · simp [h1, h3]
theorem fwS_st {I : MM} {b c f : Nat} {kn v l : Int} (hap : b + 4 < c ∨ c + 2 < b) (hv : v = tks (fa I b) kn l f) (hl : l = lva (fa I b) kn (l0R I b kn) f) : up (up (fwS I b c kn f) (c + 2) f (max 0 (l - fa I b f 5))) (c + 1) f v = fwS I b c kn (f + 1) := by
  subst hl; subst hv; exact fwS_succ hap
theorem lva_st {F : Nat → Nat → Int} {kn l0 v l : Int} {f : Nat} (hv : v = tks F kn l f) (hl : l = lva F kn l0 f) : max 0 (l - F f 5) - v = lva F kn l0 (f + 1) := by
  subst hl; subst hv; rfl
section FR
variable {G : GT} {K : List Nat} {N : NN} {I : MM} {b c : Nat}
theorem RB.l0 {n : Nat} (h : RB I b n) (kn : Int) : 0 ≤ l0R I b kn ∧ l0R I b kn ≤ 149 := by
  obtain ⟨-, -, -, -, h0, h1, h2⟩ := h
  unfold l0R
  split <;> split <;> omega
theorem RB.lv {n : Nat} (h : RB I b n) (kn : Int) (f : Nat) (hf : f ≤ n) : 0 ≤ lva (fa I b) kn (l0R I b kn) f ∧ lva (fa I b) kn (l0R I b kn) f ≤ 149 :=
  lva_b (h.l0 kn) f (fun g hg => by have := h.2.2.2.1 g (by omega); omega)

theorem sp_flow (hb : kd b = 3) (hc : kd c = 2) (hN : NS N) {n : Nat} (hB : RB I b n) {kn : Int} (hk : inr kn) : SpV G mX2_flow 2 44 0 0 [.ref c, .ref b, vi kn] K N I (qV K N (fwJ I b c kn n)) := by
  refine SpV.of (own := RX2) (cc := cX2_flow) (L := [some (.ref c), some (.ref b), some (vi kn), none, none, none]) (by decide) rfl rfl (Nat.le_of_ble_eq_true rfl) rfl (fun Fx hnm hret => ?_)
  have hap := apart_RH hb hc
  have lp : ∀ (m f : Nat) (z l : Int) (J : MM), f ≤ n → n < f + m → z = (f : Int) → l = lva (fa I b) kn (l0R I b kn) f → J = fwS I b c kn f → XX G RX2 cX2_flow (RmW 2 44 0 0) Fx 9 [some (.ref c), some (.ref b), some (vi kn), some (vi l), some (vi z), none] [] K N J 0 0 := by
    intro m
    induction m with
    | zero => intro f z l J h0 h1; exfalso; omega
    | succ m ih =>
      intro f z l J h0 h1 h2 h3 h4
      have hn9 := hB.2.2.1
      have hJ0 : J b 0 = (n : Int) := by rw [h4, ← hB.1]; simp only [fwS]; rw [if_neg (by omega), if_neg (by omega)]
      have hlv := hB.lv kn f h0
      have hfa : ∀ k, fa J b f k = fa I b f k := fun k => fa_congr (fun j => by rw [h4]; simp only [fwS]; rw [if_neg (by omega), if_neg (by omega)])
      have hbf : f < n → _ := hB.2.2.2.1 f
      refine x_iload dX2_flow_9 rfl ?_
      refine x_aload_n dX2_flow_11 rfl ?_
      refine x_getI dX2_flow_12 gf_RX2_24 hb (tg_R0 hb) ?_
      rw [hJ0]
      refine x_icmp_ge 104 dX2_flow_15 (by decide) (by unfold inr; omega) (by unfold inr; omega) (fun h_15 => ?_) (fun h_15 => ?_)
      · obtain rfl : f = n := by omega
        refine x_aload_n dX2_flow_104 rfl ?_
        refine x_iload_n dX2_flow_105 rfl ?_
        refine x_putI dX2_flow_106 pf_RX2_44 hc (tg_H2 hc) ?_
        refine hret _ _ _ _ _ dX2_flow_109 ⟨rfl, rfl, ?_⟩
        rw [h3, h4]
        funext a k
        simp only [up, fwJ]
      · refine x_iconst dX2_flow_18 ?_
        refine x_iload_n dX2_flow_19 rfl ?_
        refine x_aload_n dX2_flow_20 rfl ?_
        refine x_iload dX2_flow_21 rfl ?_
        refine x_iconst dX2_flow_23 ?_
        refine xf_VI2 dX2_flow_24 ml_RX2_28 vw_X3_fact vv_X3_fact (by rw [hb]; rfl) (sp_fact hb hN f 5 h2 rfl (by omega)) ⟨Nat.le_of_ble_eq_true rfl, Nat.le_of_ble_eq_true rfl, Nat.le_of_ble_eq_true rfl, Nat.le_of_ble_eq_true rfl, Nat.le_of_ble_eq_true rfl⟩ ?_
        rw [hfa 5]
        refine x_isub dX2_flow_27 ?_
        refine x_max dX2_flow_28 ml_RX2_32 st_mmax ini_java_lang_Math cd_mmax (by unfold inr; omega) (by unfold inr; omega) ⟨Nat.le_of_ble_eq_true rfl, Nat.le_of_ble_eq_true rfl, Nat.le_of_ble_eq_true rfl, Nat.le_of_ble_eq_true rfl⟩ ?_
        refine x_ist3 dX2_flow_31 ?_
        refine x_iconst dX2_flow_32 ?_
        refine x_iload_n dX2_flow_33 rfl ?_
        refine x_aload_n dX2_flow_34 rfl ?_
        refine x_iload dX2_flow_35 rfl ?_
        refine x_iconst dX2_flow_37 ?_
        refine xf_VI2 dX2_flow_38 ml_RX2_28 vw_X3_fact vv_X3_fact (by rw [hb]; rfl) (sp_fact hb hN f 0 h2 rfl (by omega)) ⟨Nat.le_of_ble_eq_true rfl, Nat.le_of_ble_eq_true rfl, Nat.le_of_ble_eq_true rfl, Nat.le_of_ble_eq_true rfl, Nat.le_of_ble_eq_true rfl⟩ ?_
        rw [hfa 0]
        refine x_isub dX2_flow_41 ?_
        refine x_max dX2_flow_42 ml_RX2_32 st_mmax ini_java_lang_Math cd_mmax (by unfold inr; omega) (by unfold inr; omega) ⟨Nat.le_of_ble_eq_true rfl, Nat.le_of_ble_eq_true rfl, Nat.le_of_ble_eq_true rfl, Nat.le_of_ble_eq_true rfl⟩ ?_
        refine x_ist5 dX2_flow_45 ?_
        refine x_aload_n dX2_flow_47 rfl ?_
        refine x_getR dX2_flow_48 gf_RX2_15 hc (tg_H1 hc) (hN _ _ (ne11_H hc)) ?_
        refine x_iload dX2_flow_51 rfl ?_
        refine x_iload_n dX2_flow_53 rfl ?_
        refine x_iast (f) dX2_flow_54 (kd_H2 hc) h2 (by rw [ln_H2 hc]; omega) ?_
        generalize hJ2 : up J (c + 2) f _ = J2
        have hfa2 : ∀ k, fa J2 b f k = fa I b f k := fun k => by rw [← hJ2, ← hfa k]; exact fa_congr (fun j => up_n1 (by omega))
        refine x_aload_n dX2_flow_55 rfl ?_
        refine x_getR dX2_flow_56 gf_RX2_9 hc (tg_H0 hc) (hN _ _ (ne11_H hc)) ?_
        refine x_iload dX2_flow_59 rfl ?_
        refine x_aload_n dX2_flow_61 rfl ?_
        refine x_iload dX2_flow_62 rfl ?_
        refine x_iload_n dX2_flow_64 rfl ?_
        refine xf_VI2 dX2_flow_65 ml_RX2_37 vw_X3_takesNone vv_X3_takesNone (by rw [hb]; rfl) (sp_takesNone hb hN f h2 (by omega) hk (by rw [hfa2 3]; omega) (by rw [hfa2 4]; omega)) ⟨Nat.le_of_ble_eq_true rfl, Nat.le_of_ble_eq_true rfl, Nat.le_of_ble_eq_true rfl, Nat.le_of_ble_eq_true rfl, Nat.le_of_ble_eq_true rfl⟩ ?_
        rw [hfa2 3, hfa2 4]
        refine x_if_eq 75 dX2_flow_68 (by decide) (by unfold inr; split <;> omega) (fun h_68 => ?_) (fun h_68 => ?_)
        · replace h_68 := b0 h_68
          refine x_aload_n dX2_flow_75 rfl ?_
          refine x_iload dX2_flow_76 rfl ?_
          refine x_iconst dX2_flow_78 ?_
          refine xf_VI2 dX2_flow_79 ml_RX2_28 vw_X3_fact vv_X3_fact (by rw [hb]; rfl) (sp_fact hb hN f 1 h2 rfl (by omega)) ⟨Nat.le_of_ble_eq_true rfl, Nat.le_of_ble_eq_true rfl, Nat.le_of_ble_eq_true rfl, Nat.le_of_ble_eq_true rfl, Nat.le_of_ble_eq_true rfl⟩ ?_
          rw [hfa2 1]
          refine x_iload dX2_flow_82 rfl ?_
          refine x_min dX2_flow_84 ml_RX2_41 st_mmin ini_java_lang_Math cd_mmin (by unfold inr; omega) (by unfold inr; omega) ⟨Nat.le_of_ble_eq_true rfl, Nat.le_of_ble_eq_true rfl, Nat.le_of_ble_eq_true rfl, Nat.le_of_ble_eq_true rfl⟩ ?_
          refine x_iast (f) dX2_flow_87 (kd_H1 hc) h2 (by rw [ln_H1 hc]; omega) ?_
          refine x_iload_n dX2_flow_88 rfl ?_
          refine x_aload_n dX2_flow_89 rfl ?_
          refine x_getR dX2_flow_90 gf_RX2_9 hc (tg_H0 hc) (hN _ _ (ne11_H hc)) ?_
          refine x_iload dX2_flow_93 rfl ?_
          refine x_iald (f) dX2_flow_95 (kd_H1 hc) h2 (by rw [ln_H1 hc]; omega) ?_
          rw [up_s]
          refine x_isub dX2_flow_96 ?_
          refine x_ist3 dX2_flow_97 ?_
          refine x_inc4 dX2_flow_98 ?_
          refine x_goto 9 dX2_flow_101 (by decide) ?_
          first
          | have hv := tks_t (l := l) h_68
          | have hv := tks_f (l := l) h_68
          refine x_dr5 (ih (f + 1) _ _ _ (by omega) (by omega) (by omega) (lva_st hv h3) ?_)
          rw [← hJ2, h4]
          exact fwS_st hap hv h3
        · replace h_68 := b1 h_68
          refine x_iconst dX2_flow_71 ?_
          refine x_goto 87 dX2_flow_72 (by decide) ?_
          refine x_iast (f) dX2_flow_87 (kd_H1 hc) h2 (by rw [ln_H1 hc]; omega) ?_
          refine x_iload_n dX2_flow_88 rfl ?_
          refine x_aload_n dX2_flow_89 rfl ?_
          refine x_getR dX2_flow_90 gf_RX2_9 hc (tg_H0 hc) (hN _ _ (ne11_H hc)) ?_
          refine x_iload dX2_flow_93 rfl ?_
          refine x_iald (f) dX2_flow_95 (kd_H1 hc) h2 (by rw [ln_H1 hc]; omega) ?_
          rw [up_s]
          refine x_isub dX2_flow_96 ?_
          refine x_ist3 dX2_flow_97 ?_
          refine x_inc4 dX2_flow_98 ?_
          refine x_goto 9 dX2_flow_101 (by decide) ?_
          first
          | have hv := tks_t (l := l) h_68
          | have hv := tks_f (l := l) h_68
          refine x_dr5 (ih (f + 1) _ _ _ (by omega) (by omega) (by omega) (lva_st hv h3) ?_)
          rw [← hJ2, h4]
          exact fwS_st hap hv h3
  refine x_aload_n dX2_flow_0 rfl ?_
  refine x_iload_n dX2_flow_1 rfl ?_
  refine xf_VI1 dX2_flow_2 ml_RX2_18 vw_X3_levelAtSpring vv_X3_levelAtSpring (by rw [hb]; rfl) (sp_level hb hN hk hB.2.2.2.2.1 hB.2.2.2.2.2.1 hB.2.2.2.2.2.2) ⟨Nat.le_of_ble_eq_true rfl, Nat.le_of_ble_eq_true rfl, Nat.le_of_ble_eq_true rfl, Nat.le_of_ble_eq_true rfl, Nat.le_of_ble_eq_true rfl⟩ ?_
  refine x_ist3 dX2_flow_5 ?_
  refine x_iconst dX2_flow_6 ?_
  refine x_ist4 dX2_flow_7 ?_
  exact lp (n + 1) 0 _ _ _ (by omega) (by omega) rfl rfl (by funext a k; simp [fwS])
end FR

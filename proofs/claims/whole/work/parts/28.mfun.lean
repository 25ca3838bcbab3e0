def fz_ndp (st : Nat → Int) (a b : Nat) (s : Nat) : Nat → Bool := fun j => !decide (j = a) && !decide (j = b) && decide (st j = (s : Int))
theorem fz_ndp_t {st : Nat → Int} {a b s j : Nat} (h1 : j ≠ a) (h2 : j ≠ b) (h3 : st j = (s : Int)) : fz_ndp st a b s j = true := by unfold fz_ndp; rw [decide_eq_false h1, decide_eq_false h2, decide_eq_true h3]; rfl
theorem fz_ndp_f {st : Nat → Int} {a b s j : Nat} (h : j = a ∨ j = b ∨ st j ≠ (s : Int)) : fz_ndp st a b s j = false := by
  unfold fz_ndp
  rcases h with h | h | h
  · rw [decide_eq_true h]; rfl
  · rw [decide_eq_true h]; simp
  · rw [decide_eq_false h]; simp
theorem fz_nd_le (st : Nat → Int) (k a b : Nat) (s : Int) : fz_nd st k a b s ≤ k := sp_ct_le _
theorem fz_cnt_le (xs : Nat → Int) (s : Int) : ∀ n, fz_cnt xs s n ≤ n
  | 0 => Nat.le_refl 0
  | n + 1 => by
    have := fz_cnt_le xs s n
    rw [fz_cnt]
    split <;> omega
def fBar (st : Nat → Int) (bar : Int) (k a b : Nat) (bt : Nat → Nat) (s : Nat) (y : Int) : Prop := y = 0 ↔ ∀ s' : Nat, s' < s → (s' : Int) = bar → fz_nd st k a b s' = bt s'
theorem fBar_0 {st : Nat → Int} {bar : Int} {k a b : Nat} {bt : Nat → Nat} {y : Int} (h : y = 0) : fBar st bar k a b bt 0 y := ⟨fun _ s' q => absurd q (Nat.not_lt_zero s'), fun _ => h⟩
theorem fBar_k {st : Nat → Int} {bar : Int} {k a b : Nat} {bt : Nat → Nat} {s : Nat} {y : Int} (h : fBar st bar k a b bt s y) (hs : (s : Int) ≠ bar) : fBar st bar k a b bt (s + 1) y := by
  unfold fBar at h ⊢
  rw [h]
  constructor
  · intro g s' q1 q2
    by_cases e : s' = s
    · subst e; exact absurd q2 hs
    · exact g s' (by omega) q2
  · intro g s' q1 q2
    exact g s' (by omega) q2
theorem fBar_s {st : Nat → Int} {bar : Int} {k a b : Nat} {bt : Nat → Nat} {s : Nat} {y : Int} (hs : (s : Int) = bar) (hy : y = (bt s : Int) - (fz_nd st k a b s : Int)) (_ : True ∨ y = y) : fBar st bar k a b bt (s + 1) y := by
  unfold fBar
  constructor
  · intro h s' q1 q2
    have e : s' = s := by omega
    subst e; omega
  · intro g
    have := g s (by omega) hs
    omega
theorem fBar_iff {st : Nat → Int} {bar : Int} {k a b : Nat} {bt : Nat → Nat} {s : Nat} {y : Int} (h : fBar st bar k a b bt s y) : y = 0 ↔ ∀ s' : Nat, s' < s → (s' : Int) = bar → fz_nd st k a b s' = bt s' := h
def fF (P : Nat → Nat → Prop) (k : Nat) (y : Int) (A B : Nat) : Prop := (y = 1 ∧ ∃ a b, a < k ∧ b < k ∧ P a b) ∨ (y = 0 ∧ ∀ a b, a < k → b < k → (a < A ∨ (a = A ∧ b < B)) → ¬ P a b)
theorem fF_0 {P : Nat → Nat → Prop} {k : Nat} {y : Int} (h : y = 0) : fF P k y 0 0 := Or.inr ⟨h, fun a b _ _ h => by omega⟩
theorem fF_row {P : Nat → Nat → Prop} {k : Nat} {y : Int} {A B : Nat} (h : fF P k y A B) (hB : y ≠ 0 ∨ k ≤ B) : fF P k y (A + 1) 0 := by
  rcases h with h | ⟨h1, h2⟩
  · exact Or.inl h
  · refine Or.inr ⟨h1, fun a b q1 q2 q3 => h2 a b q1 q2 (by omega)⟩
theorem fF_yes {P : Nat → Nat → Prop} {k : Nat} {y : Int} {A B : Nat} (hA : A < k) (hB : B < k) (hy : y = 1) (h : P A B) : fF P k y A (B + 1) := Or.inl ⟨hy, A, B, hA, hB, h⟩
theorem fF_no {P : Nat → Nat → Prop} {k : Nat} {y z : Int} {A B : Nat} (h : fF P k y A B) (h0 : y = 0) (hz : z = 0) (hn : ¬ P A B) : fF P k z A (B + 1) := by
  rcases h with ⟨h1, -⟩ | ⟨h1, h2⟩
  · omega
  · refine Or.inr ⟨hz, fun a b q1 q2 q3 => ?_⟩
    by_cases e : a = A ∧ b = B
    · obtain ⟨rfl, rfl⟩ := e; exact hn
    · exact h2 a b q1 q2 (by omega)
theorem fF_end {P : Nat → Nat → Prop} {k : Nat} {y : Int} {A : Nat} (h : fF P k y A 0) (hA : y ≠ 0 ∨ k ≤ A) : (y = 1 ∧ ∃ a b, a < k ∧ b < k ∧ P a b) ∨ (y = 0 ∧ ¬ ∃ a b, a < k ∧ b < k ∧ P a b) := by
  rcases h with h | ⟨h1, h2⟩
  · exact Or.inl h
  · refine Or.inr ⟨h1, ?_⟩
    rintro ⟨a, b, q1, q2, q3⟩
    exact h2 a b q1 q2 (by omega) q3
theorem fF_b {P : Nat → Nat → Prop} {k : Nat} {y : Int} {A B : Nat} (h : fF P k y A B) : y = 0 ∨ y = 1 := by
  rcases h with h | h
  · exact Or.inr h.1
  · exact Or.inl h.1
def fHd (p : Prop) : Prop := p
theorem fHd_i {p : Prop} (h : p) : fHd p := h
theorem fHd_g {p : Prop} (h : fHd p) : p := h
def fPP (st xs : Nat → Int) (bar : Int) (k i : Nat) (a b : Nat) : Prop := a ≠ b ∧ st a = xs 0 ∧ st b = xs i ∧ fz_su st bar k a b (fun s => fz_cnt xs (s : Int) (i - 1))
theorem fT_not {β : sp_B} {f : Nat} {l : List Nat} {a i m : Nat} (h : ¬ fT β f l a i m = true) : fT β f l a i m = false := by simpa using h
theorem fW_1 {β : sp_B} {f : Nat} {l : List Nat} {a i k : Nat} (hi : i = 0) (hz : (β 7 f).toNat ≤ 4) (h1 : 1 ≤ k) (hk : k ≤ (β 7 f).toNat) : fT β f l a i (2 ^ k - 1) = true ↔ k = 1 ∧ β 11 (4 * f) = β 3 (l.getD a 0) := by
  subst hi
  exact fz_way_1 hz h1 hk
theorem fW_O {β : sp_B} {f : Nat} {l : List Nat} {a n k : Nat} (_ : f < 6) (hz : (β 7 f).toNat ≤ 4) (h2 : 2 ≤ k) (hk : k ≤ (β 7 f).toNat) (hst : ∀ j, j < (β 7 f).toNat → 0 ≤ β 11 (4 * f + j) ∧ β 11 (4 * f + j) < 8) (hxs : ∀ i, i ≤ n → 0 ≤ β 3 (l.getD (a + i) 0) ∧ β 3 (l.getD (a + i) 0) < 8) (ho : β 8 f = 1) : fT β f l a (n + 1) (2 ^ k - 1) = true ↔ β 11 (4 * f) = β 3 (l.getD a 0) ∧ β 11 (4 * f + (k - 1)) = β 3 (l.getD (a + (n + 1)) 0) ∧ fz_g (fun j => β 11 (4 * f + j)) (fun i => β 3 (l.getD (a + i) 0)) (k - 2) n = k - 2 ∧ fz_su (fun j => β 11 (4 * f + j)) (β 10 f) k 0 (k - 1) (fun s => fz_cnt (fun i => β 3 (l.getD (a + i) 0)) (s : Int) n) := by
  unfold fT
  rw [decide_eq_true ho]
  exact fz_way_O hz h2 hk hst hxs
theorem fW_U {β : sp_B} {f : Nat} {l : List Nat} {a n k : Nat} (_ : f < 6) (hz : (β 7 f).toNat ≤ 4) (h2 : 2 ≤ k) (hk : k ≤ (β 7 f).toNat) (hst : ∀ j, j < (β 7 f).toNat → 0 ≤ β 11 (4 * f + j) ∧ β 11 (4 * f + j) < 8) (hxs : ∀ i, i ≤ n → 0 ≤ β 3 (l.getD (a + i) 0) ∧ β 3 (l.getD (a + i) 0) < 8) (ho : β 8 f ≠ 1) : fT β f l a (n + 1) (2 ^ k - 1) = true ↔ ∃ p q, p < k ∧ q < k ∧ fPP (fun j => β 11 (4 * f + j)) (fun i => β 3 (l.getD (a + i) 0)) (β 10 f) k (n + 1) p q := by
  unfold fT
  rw [decide_eq_false ho, fz_way_U hz h2 hk hst hxs]
  constructor
  · rintro ⟨p, q, g1, g2, g3, g4, g5, g6⟩
    exact ⟨p, q, g1, g2, g3, g4, g5, g6⟩
  · rintro ⟨p, q, g1, g2, g3, g4, g5, g6⟩
    exact ⟨p, q, g1, g2, g3, g4, g5, g6⟩
set_option maxRecDepth 20000 in
set_option maxHeartbeats 4000000 in
theorem c_X5_funnel (l : Launch) (D : va_G) (ad : Nat → Nat) (ca : Nat → ClassId) (T : Nat → Nat) (σ : sd_Mem) (β : sp_B) (hM : sd_MR σ β) (hG : sd_RG β) (x1 x2 x3 : Int32) (hx1 : x1.toInt = 0 ∨ x1.toInt = 1) : sd_Ci l yX5_funnel cX5_funnel 4 2 D ad ca T σ [.ref (ad 76), .int x1, .int x2, .int x3] (fun r σ' => r.toInt = an_funnel β x2.toInt x3.toInt ∧ sd_MR σ' (up_funnel β x1.toInt x2.toInt x3.toInt) ∧ sd_lo σ σ') := by
  refine sd_ent_i (own := RX5) (by decide) rfl (Nat.le_of_ble_eq_true rfl) (fun X C hret => ?_)
  show sd_Wd X 4 D ad ca σ [(0, .ref (ad 76)), (1, .int x1), (2, .int x2), (3, .int x3)] 0 []
  have hN := sp_n_le hG
  have hn1 := hM.1.1
  have hn2 := hM.1.2
  have n3 := hG.1
  refine sd_iload_n C dX5_funnel_0 2 rfl rfl ?_
  refine sd_i2l C dX5_funnel_1 (fun g1 eg1 => ?_)
  refine sd_lconst C dX5_funnel_2 (z := 0) (by decide) (fun k2 ek2 => ?_)
  refine sd_ldc2 C dX5_funnel_3 wk_X5_133 (n := 100000) (by decide) (fun k3 ek3 => ?_)
  refine sd_pSz C (c_X5_in l D ad ca T σ g1 k2 k3) mv_X5_in wm_X5_61 (by decide) rfl rfl (Nat.le_of_ble_eq_true rfl) dX5_funnel_6 (fun r6 h6 => ?_)
  try dsimp only at h6
  refine sd_if_eq C 26 dX5_funnel_9 (by decide) (fun c9 => ?_) (fun c9 => ?_)
  · refine sd_sipush C dX5_funnel_26 (by decide) (fun k26 ek26 => ?_)
    exact hret _ _ _ _ dX5_funnel_29 (⟨by
        unfold an_funnel
        repeat' split
        all_goals omega, by
        unfold up_funnel
        rw [if_pos (by omega)]; exact hM, fun _ _ _ => rfl⟩)
  · refine sd_iload_n C dX5_funnel_12 3 rfl rfl ?_
    refine sd_i2l C dX5_funnel_13 (fun g13 eg13 => ?_)
    refine sd_ldc2 C dX5_funnel_14 wk_X5_135 (n := -1) (by decide) (fun k14 ek14 => ?_)
    refine sd_ldc2 C dX5_funnel_17 wk_X5_75 (n := 7) (by decide) (fun k17 ek17 => ?_)
    refine sd_pSz C (c_X5_in l D ad ca T σ g13 k14 k17) mv_X5_in wm_X5_61 (by decide) rfl rfl (Nat.le_of_ble_eq_true rfl) dX5_funnel_20 (fun r20 h20 => ?_)
    try dsimp only at h20
    refine sd_if_ne C 30 dX5_funnel_23 (by decide) (fun c23 => ?_) (fun c23 => ?_)
    · refine sd_aload_n C dX5_funnel_30 0 rfl rfl ?_
      refine sd_get C (by decide) rfl rfl 7 (by decide) rfl wf_X5_130 dX5_funnel_31 ?_
      refine sd_bipush C dX5_funnel_34 (by decide) (fun k34 ek34 => ?_)
      refine sd_icmp_ne C 43 dX5_funnel_36 (by decide) (fun c36 => ?_) (fun c36 => ?_)
      · refine sd_aload_n C dX5_funnel_43 0 rfl rfl ?_
        refine sd_get C (by decide) rfl rfl 8 (by decide) rfl wf_X5_29 dX5_funnel_44 ?_
        refine sd_aload_n C dX5_funnel_47 0 rfl rfl ?_
        refine sd_get C (by decide) rfl rfl 7 (by decide) rfl wf_X5_130 dX5_funnel_48 ?_
        refine sd_iload_n C dX5_funnel_51 1 rfl rfl ?_
        refine sd_zast C (by decide) (fun _ => rfl) ((β 0 1).toNat) ⟨by omega, by omega⟩ (by omega) dX5_funnel_52 (fun s52 es52 => ?_)
        have f1 : s52 76 7 = σ 76 7 := by rw [es52, sd_st_ne (by decide)]
        refine sd_aload_n C dX5_funnel_53 0 rfl rfl ?_
        refine sd_get C (by decide) rfl rfl 9 (by decide) rfl wf_X5_32 dX5_funnel_54 ?_
        refine sd_aload_n C dX5_funnel_57 0 rfl rfl ?_
        refine sd_get C (by decide) rfl rfl 7 (by decide) rfl wf_X5_130 dX5_funnel_58 ?_
        refine sd_iload_n C dX5_funnel_61 2 rfl rfl ?_
        refine sd_iast C (by decide) (fun _ => rfl) ((β 0 1).toNat) ⟨by rw [f1]; omega, by omega⟩ dX5_funnel_62 (fun s62 es62 => ?_)
        have f2 : s62 76 7 = σ 76 7 := by rw [es62, sd_st_ne (by decide)]; exact f1
        refine sd_aload_n C dX5_funnel_63 0 rfl rfl ?_
        refine sd_get C (by decide) rfl rfl 10 (by decide) rfl wf_X5_35 dX5_funnel_64 ?_
        refine sd_aload_n C dX5_funnel_67 0 rfl rfl ?_
        refine sd_get C (by decide) rfl rfl 7 (by decide) rfl wf_X5_130 dX5_funnel_68 ?_
        refine sd_iload_n C dX5_funnel_71 3 rfl rfl ?_
        refine sd_iast C (by decide) (fun _ => rfl) ((β 0 1).toNat) ⟨by rw [f2]; omega, by omega⟩ dX5_funnel_72 (fun s72 es72 => ?_)
        have f3 : s72 76 7 = σ 76 7 := by rw [es72, sd_st_ne (by decide)]; exact f2
        refine sd_aload_n C dX5_funnel_73 0 rfl rfl ?_
        refine sd_get C (by decide) rfl rfl 11 (by decide) rfl wf_X5_38 dX5_funnel_74 ?_
        refine sd_aload_n C dX5_funnel_77 0 rfl rfl ?_
        refine sd_get C (by decide) rfl rfl 7 (by decide) rfl wf_X5_130 dX5_funnel_78 ?_
        refine sd_iconst C dX5_funnel_81 (by decide) (fun k81 ek81 => ?_)
        refine sd_iast C (by decide) (fun _ => rfl) ((β 0 1).toNat) ⟨by rw [f3]; omega, by omega⟩ dX5_funnel_82 (fun s82 es82 => ?_)
        have f4 : s82 76 7 = σ 76 7 := by rw [es82, sd_st_ne (by decide)]; exact f3
        refine sd_aload_n C dX5_funnel_83 0 rfl rfl ?_
        refine sd_dup C dX5_funnel_84 rfl ?_
        refine sd_get C (by decide) rfl rfl 7 (by decide) rfl wf_X5_130 dX5_funnel_85 ?_
        refine sd_iconst C dX5_funnel_88 (by decide) (fun k88 ek88 => ?_)
        refine sd_iadd C dX5_funnel_89 (by rw [f4]; omega) (fun z89 ez89 => ?_)
        refine sd_put C (ty := .int) (by decide) rfl rfl 7 (by decide) rfl (by decide +kernel) rfl rfl (Nat.le_of_ble_eq_true rfl) (fun _ => rfl) wf_X5_130 dX5_funnel_90 (fun s90 es90 => ?_)
        have f5 : s90 76 7 = z89 := by rw [es90, sd_st_at]
        refine sd_aload_n C dX5_funnel_93 0 rfl rfl ?_
        refine sd_get C (by decide) rfl rfl 7 (by decide) rfl wf_X5_130 dX5_funnel_94 ?_
        refine sd_iconst C dX5_funnel_97 (by decide) (fun k97 ek97 => ?_)
        refine sd_isub C dX5_funnel_98 (by rw [f5, ez89, f4]; omega) (fun z98 ez98 => ?_)
        exact hret _ _ _ _ dX5_funnel_99 (by
            rw [f4] at ez89
            rw [f5] at ez98
            have fr : ∀ i k, ¬ (i = 83 ∧ k = (β 0 1).toNat) → ¬ (i = 84 ∧ k = (β 0 1).toNat) → ¬ (i = 85 ∧ k = (β 0 1).toNat) → ¬ (i = 86 ∧ k = (β 0 1).toNat) → ¬ (i = 76 ∧ k = 7) → s90 i k = σ i k := by
              intro i k q1 q2 q3 q4 q5
              rw [es90, sd_st_eq, if_neg q5, es82, sd_st_eq, if_neg q4, es72, sd_st_eq, if_neg q3, es62, sd_st_eq, if_neg q2, es52, sd_st_eq, if_neg q1]
            refine ⟨?_, ?_, fun i k hi => fr i k (by omega) (by omega) (by omega) (by omega) (by omega)⟩
            · unfold an_funnel
              repeat' split
              all_goals omega
            · unfold up_funnel
              rw [if_neg (by omega)]
              refine sd_MR_funnel (z := z89) hM (f := (β 0 1).toNat) (by omega) (by omega) fr (by rw [f5]; omega) ?_ ?_ ?_ ?_
              · rw [es90, sd_st_ne (by decide), es82, sd_st_ne (by decide), es72, sd_st_ne (by decide), es62, sd_st_ne (by decide), es52, sd_st_at]
              · rw [es90, sd_st_ne (by decide), es82, sd_st_ne (by decide), es72, sd_st_ne (by decide), es62, sd_st_at]
              · rw [es90, sd_st_ne (by decide), es82, sd_st_ne (by decide), es72, sd_st_at]
              · rw [es90, sd_st_ne (by decide), es82, sd_st_at]; exact ek81)
      · refine sd_sipush C dX5_funnel_39 (by decide) (fun k39 ek39 => ?_)
        exact hret _ _ _ _ dX5_funnel_42 (⟨by
            unfold an_funnel
            repeat' split
            all_goals omega, by
            unfold up_funnel
            rw [if_pos (by omega)]; exact hM, fun _ _ _ => rfl⟩)
    · refine sd_sipush C dX5_funnel_26 (by decide) (fun k26 ek26 => ?_)
      exact hret _ _ _ _ dX5_funnel_29 (⟨by
          unfold an_funnel
          repeat' split
          all_goals omega, by
          unfold up_funnel
          rw [if_pos (by omega)]; exact hM, fun _ _ _ => rfl⟩)

set_option maxRecDepth 20000 in
set_option maxHeartbeats 4000000 in
theorem c_X5_step (l : Launch) (D : va_G) (ad : Nat → Nat) (ca : Nat → ClassId) (T : Nat → Nat) (σ : sd_Mem) (β : sp_B) (hM : sd_MR σ β) (hG : sd_RG β) (x1 x2 : Int32) : sd_Ci l yX5_step cX5_step 3 2 D ad ca T σ [.ref (ad 76), .int x1, .int x2] (fun r σ' => r.toInt = an_step β x1.toInt x2.toInt ∧ sd_MR σ' (up_step β x1.toInt x2.toInt) ∧ sd_lo σ σ') := by
  refine sd_ent_i (own := RX5) (by decide) rfl (Nat.le_of_ble_eq_true rfl) (fun X C hret => ?_)
  show sd_Wd X 3 D ad ca σ [(0, .ref (ad 76)), (1, .int x1), (2, .int x2)] 0 []
  have hN := sp_n_le hG
  have hn1 := hM.1.1
  have hn2 := hM.1.2
  have n3 := hG.1
  refine sd_aload_n C dX5_step_0 0 rfl rfl ?_
  refine sd_iload_n C dX5_step_1 1 rfl rfl ?_
  refine sd_pVz C (c_X5_isFunnel l D ad ca T σ x1 (by omega)) mv_X5_isFunnel wm_X5_137 (by decide) rfl rfl (by decide) rfl rfl (Nat.le_of_ble_eq_true rfl) dX5_step_2 (fun r2 h2 => ?_)
  try dsimp only at h2
  refine sd_if_ne C 12 dX5_step_5 (by decide) (fun c5 => ?_) (fun c5 => ?_)
  · refine sd_iload_n C dX5_step_12 2 rfl rfl ?_
    refine sd_i2l C dX5_step_13 (fun g13 eg13 => ?_)
    refine sd_lconst C dX5_step_14 (z := 0) (by decide) (fun k14 ek14 => ?_)
    refine sd_ldc2 C dX5_step_15 wk_X5_75 (n := 7) (by decide) (fun k15 ek15 => ?_)
    refine sd_pSz C (c_X5_in l D ad ca T σ g13 k14 k15) mv_X5_in wm_X5_61 (by decide) rfl rfl (Nat.le_of_ble_eq_true rfl) dX5_step_18 (fun r18 h18 => ?_)
    try dsimp only at h18
    refine sd_if_ne C 28 dX5_step_21 (by decide) (fun c21 => ?_) (fun c21 => ?_)
    · have t1 := (hM.2.2.2.2.1 x1.toInt.toNat (by omega)).2.2.2
      have t2 := hG.2.2.2.2.1 x1.toInt.toNat (by omega)
      refine sd_aload_n C dX5_step_28 0 rfl rfl ?_
      refine sd_get C (by decide) rfl rfl 11 (by decide) rfl wf_X5_38 dX5_step_29 ?_
      refine sd_iload_n C dX5_step_32 1 rfl rfl ?_
      refine sd_iald C (by decide) rfl (x1.toInt.toNat) ⟨by omega, by omega⟩ dX5_step_33 ?_
      refine sd_iconst C dX5_step_34 (by decide) (fun k34 ek34 => ?_)
      refine sd_icmp_ne C 42 dX5_step_35 (by decide) (fun c35 => ?_) (fun c35 => ?_)
      · refine sd_aload_n C dX5_step_42 0 rfl rfl ?_
        refine sd_get C (by decide) rfl rfl 12 (by decide) rfl wf_X5_41 dX5_step_43 ?_
        refine sd_iconst C dX5_step_46 (by decide) (fun k46 ek46 => ?_)
        refine sd_iload_n C dX5_step_47 1 rfl rfl ?_
        refine sd_imul C dX5_step_48 (by rw [ek46]; omega) (fun z48 ez48 => ?_)
        rw [ek46] at ez48
        refine sd_aload_n C dX5_step_49 0 rfl rfl ?_
        refine sd_get C (by decide) rfl rfl 11 (by decide) rfl wf_X5_38 dX5_step_50 ?_
        refine sd_iload_n C dX5_step_53 1 rfl rfl ?_
        refine sd_iald C (by decide) rfl (x1.toInt.toNat) ⟨by omega, by omega⟩ dX5_step_54 ?_
        refine sd_iadd C dX5_step_55 (by omega) (fun z55 ez55 => ?_)
        refine sd_iload_n C dX5_step_56 2 rfl rfl ?_
        refine sd_iast C (by decide) (fun _ => rfl) (4 * x1.toInt.toNat + (β 7 x1.toInt.toNat).toNat) ⟨by omega, by omega⟩ dX5_step_57 (fun s57 es57 => ?_)
        have f1 : s57 86 x1.toInt.toNat = σ 86 x1.toInt.toNat := by rw [es57, sd_st_ne (by decide)]
        refine sd_aload_n C dX5_step_58 0 rfl rfl ?_
        refine sd_get C (by decide) rfl rfl 11 (by decide) rfl wf_X5_38 dX5_step_59 ?_
        refine sd_iload_n C dX5_step_62 1 rfl rfl ?_
        refine sd_dup2 C dX5_step_63 rfl rfl ?_
        refine sd_iald C (by decide) rfl (x1.toInt.toNat) ⟨by omega, by omega⟩ dX5_step_64 ?_
        refine sd_iconst C dX5_step_65 (by decide) (fun k65 ek65 => ?_)
        refine sd_iadd C dX5_step_66 (by rw [f1]; omega) (fun z66 ez66 => ?_)
        refine sd_iast C (by decide) (fun _ => rfl) (x1.toInt.toNat) ⟨by omega, by omega⟩ dX5_step_67 (fun s67 es67 => ?_)
        have f2 : s67 86 x1.toInt.toNat = z66 := by rw [es67, sd_st_at]
        rw [f1] at ez66
        refine sd_aload_n C dX5_step_68 0 rfl rfl ?_
        refine sd_get C (by decide) rfl rfl 11 (by decide) rfl wf_X5_38 dX5_step_69 ?_
        refine sd_iload_n C dX5_step_72 1 rfl rfl ?_
        refine sd_iald C (by decide) rfl (x1.toInt.toNat) ⟨by omega, by omega⟩ dX5_step_73 ?_
        exact hret _ _ _ _ dX5_step_74 (by
            have fr : ∀ i k, ¬ (i = 87 ∧ k = 4 * x1.toInt.toNat + (β 7 x1.toInt.toNat).toNat) → ¬ (i = 86 ∧ k = x1.toInt.toNat) → s67 i k = σ i k := by
              intro i k q1 q2
              rw [es67, sd_st_eq, if_neg q2, es57, sd_st_eq, if_neg q1]
            refine ⟨?_, ?_, fun i k hi => fr i k (by omega) (by omega)⟩
            · rw [f2]
              unfold an_step
              repeat' split
              all_goals omega
            · unfold up_step
              rw [if_neg (by omega)]
              refine sd_MR_step hM hG (f := x1.toInt.toNat) (by omega) (by omega) fr (by rw [f2]; omega) ?_
              rw [es67, sd_st_ne (by decide), es57, sd_st_at])
      · refine sd_sipush C dX5_step_38 (by decide) (fun k38 ek38 => ?_)
        exact hret _ _ _ _ dX5_step_41 (⟨by
            unfold an_step
            repeat' split
            all_goals omega, by
            unfold up_step
            rw [if_pos (by omega)]; exact hM, fun _ _ _ => rfl⟩)
    · refine sd_sipush C dX5_step_24 (by decide) (fun k24 ek24 => ?_)
      exact hret _ _ _ _ dX5_step_27 (⟨by
          unfold an_step
          repeat' split
          all_goals omega, by
          unfold up_step
          rw [if_pos (by omega)]; exact hM, fun _ _ _ => rfl⟩)
  · refine sd_sipush C dX5_step_8 (by decide) (fun k8 ek8 => ?_)
    exact hret _ _ _ _ dX5_step_11 (⟨by
        unfold an_step
        repeat' split
        all_goals omega, by
        unfold up_step
        rw [if_pos (by omega)]; exact hM, fun _ _ _ => rfl⟩)

set_option maxRecDepth 20000 in
set_option maxHeartbeats 4000000 in
theorem c_X5_suits (l : Launch) (D : va_G) (ad : Nat → Nat) (ca : Nat → ClassId) (T : Nat → Nat) (σ : sd_Mem) (β : sp_B) (hM : sd_MR σ β) (hG : sd_RG β) (f k a b : Nat) (hf : f < 6) (hk : k ≤ 4) (bt : Nat → Nat) (hbt : ∀ s, s < 8 → (σ 90 s).toInt = (bt s : Int) ∧ bt s ≤ 200) (x1 x2 x3 x4 : Int32) (hx1 : x1.toInt = (f : Int)) (hx2 : x2.toInt = (k : Int)) (hx3 : x3.toInt = (a : Int)) (hx4 : x4.toInt = (b : Int)) : sd_Cz l yX5_suits cX5_suits 9 0 D ad ca T σ [.ref (ad 76), .int x1, .int x2, .int x3, .int x4] (fun r σ' => σ' = σ ∧ ((r.toInt = 1 ∧ fz_su (fun j => β 11 (4 * f + j)) (β 10 f) k a b bt) ∨ (r.toInt = 0 ∧ ¬ fz_su (fun j => β 11 (4 * f + j)) (β 10 f) k a b bt))) := by
  refine sd_ent_z (own := RX5) (by decide) rfl (Nat.le_of_ble_eq_true rfl) (fun X C hret => ?_)
  show sd_Wd X 9 D ad ca σ [(0, .ref (ad 76)), (1, .int x1), (2, .int x2), (3, .int x3), (4, .int x4)] 0 []
  have tb := (hM.2.2.2.2.1 f hf).2.2.1
  have tg := hG.2.2.2.2.1 f hf
  refine sd_iconst C dX5_suits_0 (by decide) (fun k0 ek0 => ?_)
  refine sd_istore (lv' := [(5, .int k0), (0, .ref (ad 76)), (1, .int x1), (2, .int x2), (3, .int x3), (4, .int x4)]) C dX5_suits_1 (by decide) rfl ?_
  refine sd_iconst C dX5_suits_3 (by decide) (fun k3 ek3 => ?_)
  refine sd_istore (lv' := [(6, .int k3), (5, .int k0), (0, .ref (ad 76)), (1, .int x1), (2, .int x2), (3, .int x3), (4, .int x4)]) C dX5_suits_4 (by decide) rfl ?_
  have key6 : ∀ (fu6 : Nat) (y5 : Int32) (y6 : Int32) (s : Nat), (y6.toInt = (s : Int)) → (s ≤ 8) → (∀ s' : Nat, s' < s → fz_nd (fun j => β 11 (4 * f + j)) k a b s' ≤ bt s') → (fBar (fun j => β 11 (4 * f + j)) (β 10 f) k a b bt s y5.toInt) → (8 - s < fu6) → sd_Wd X 9 D ad ca σ [(6, .int y6), (5, .int y5), (0, .ref (ad 76)), (1, .int x1), (2, .int x2), (3, .int x3), (4, .int x4)] 6 [] := by
    intro fu6
    induction fu6 with
    | zero => intro y5 y6 s h6 hs H1 H2 hm6; exact absurd hm6 (Nat.not_lt_zero _)
    | succ fu6 ih6 =>
      intro y5 y6 s h6 hs H1 H2 hm6
      refine sd_iload C dX5_suits_6 0 rfl ?_
      refine sd_bipush C dX5_suits_8 (by decide) (fun k8 ek8 => ?_)
      refine sd_icmp_ge C 118 dX5_suits_10 (by decide) (fun c10 => ?_) (fun c10 => ?_)
      · refine sd_iload C dX5_suits_118 1 rfl ?_
        refine sd_if_ne C 127 dX5_suits_120 (by decide) (fun c120 => ?_) (fun c120 => ?_)
        · refine sd_iconst C dX5_suits_127 (by decide) (fun k127 ek127 => ?_)
          exact hret _ _ _ _ dX5_suits_128 (by omega) (⟨rfl, by
              have e : s = 8 := by omega
              subst e
              have hi := fBar_iff H2
              first
                | exact Or.inl ⟨by omega, H1, hi.mp (by omega)⟩
                | exact Or.inr ⟨by omega, fun w => absurd (hi.mpr w.2) (by omega)⟩⟩)
        · refine sd_iconst C dX5_suits_123 (by decide) (fun k123 ek123 => ?_)
          refine sd_goto C 128 dX5_suits_124 (by decide) ?_
          exact hret _ _ _ _ dX5_suits_128 (by omega) (⟨rfl, by
              have e : s = 8 := by omega
              subst e
              have hi := fBar_iff H2
              first
                | exact Or.inl ⟨by omega, H1, hi.mp (by omega)⟩
                | exact Or.inr ⟨by omega, fun w => absurd (hi.mpr w.2) (by omega)⟩⟩)
      · refine sd_iconst C dX5_suits_13 (by decide) (fun k13 ek13 => ?_)
        refine sd_istore (lv' := [(7, .int k13), (6, .int y6), (5, .int y5), (0, .ref (ad 76)), (1, .int x1), (2, .int x2), (3, .int x3), (4, .int x4)]) C dX5_suits_14 (by decide) rfl ?_
        refine sd_iconst C dX5_suits_16 (by decide) (fun k16 ek16 => ?_)
        refine sd_istore (lv' := [(8, .int k16), (7, .int k13), (6, .int y6), (5, .int y5), (0, .ref (ad 76)), (1, .int x1), (2, .int x2), (3, .int x3), (4, .int x4)]) C dX5_suits_17 (by decide) rfl ?_
        have key19 : ∀ (fu19 : Nat) (y7 : Int32) (y8 : Int32) (j : Nat), (y8.toInt = (j : Int)) → (j ≤ k) → (y7.toInt = (sp_ct (fz_ndp (fun j => β 11 (4 * f + j)) a b s) j : Int)) → (k - j < fu19) → sd_Wd X 9 D ad ca σ [(8, .int y8), (7, .int y7), (6, .int y6), (5, .int y5), (0, .ref (ad 76)), (1, .int x1), (2, .int x2), (3, .int x3), (4, .int x4)] 19 [] := by
          intro fu19
          induction fu19 with
          | zero => intro y7 y8 j h8 hj h7 hm19; exact absurd hm19 (Nat.not_lt_zero _)
          | succ fu19 ih19 =>
            intro y7 y8 j h8 hj h7 hm19
            refine sd_iload C dX5_suits_19 0 rfl ?_
            refine sd_iload_n C dX5_suits_21 6 rfl rfl ?_
            refine sd_icmp_ge C 70 dX5_suits_22 (by decide) (fun c22 => ?_) (fun c22 => ?_)
            · have v1 := hbt s (by omega)
              have v2 := fz_nd_le (fun j => β 11 (4 * f + j)) k a b (s : Int)
              have v3 : y7.toInt = (fz_nd (fun j => β 11 (4 * f + j)) k a b (s : Int) : Int) := by rw [show k = j by omega]; exact h7
              refine sd_iload C dX5_suits_70 1 rfl ?_
              refine sd_aload_n C dX5_suits_72 4 rfl rfl ?_
              refine sd_get C (by decide) rfl rfl 18 (by decide) rfl wf_X5_50 dX5_suits_73 ?_
              refine sd_iload C dX5_suits_76 2 rfl ?_
              refine sd_iald C (by decide) rfl (s) ⟨by omega, by omega⟩ dX5_suits_78 ?_
              refine sd_icmp_le C 84 dX5_suits_79 (by decide) (fun c79 => ?_) (fun c79 => ?_)
              · refine sd_iload C dX5_suits_84 2 rfl ?_
                refine sd_aload_n C dX5_suits_86 4 rfl rfl ?_
                refine sd_get C (by decide) rfl rfl 10 (by decide) rfl wf_X5_35 dX5_suits_87 ?_
                refine sd_iload_n C dX5_suits_90 5 rfl rfl ?_
                refine sd_iald C (by decide) rfl (f) ⟨by omega, by omega⟩ dX5_suits_91 ?_
                refine sd_icmp_ne C 108 dX5_suits_92 (by decide) (fun c92 => ?_) (fun c92 => ?_)
                · refine sd_iload C dX5_suits_108 3 rfl ?_
                  refine sd_istore (lv' := [(5, .int y5), (8, .int y8), (7, .int y7), (6, .int y6), (0, .ref (ad 76)), (1, .int x1), (2, .int x2), (3, .int x3), (4, .int x4)]) C dX5_suits_110 (by decide) rfl ?_
                  refine sd_iinc C dX5_suits_112 3 rfl (by decide) (by decide) (by omega) (fun zz => [(6, .int zz), (5, .int y5), (8, .int y8), (7, .int y7), (0, .ref (ad 76)), (1, .int x1), (2, .int x2), (3, .int x3), (4, .int x4)]) (fun _ => rfl) (fun u112 eu112 => ?_)
                  refine sd_goto C 6 dX5_suits_115 (by decide) ?_
                  exact sd_lv (ih6 y5 u112 (s + 1) (by omega) (by omega) (fun s' h => by
                        by_cases e : s' = s
                        · subst e; omega
                        · exact H1 s' (by omega)) (fBar_k H2 (by omega)) (by omega)) [0, 1, 4, 5, 6, 7, 8] rfl
                · refine sd_aload_n C dX5_suits_95 4 rfl rfl ?_
                  refine sd_get C (by decide) rfl rfl 18 (by decide) rfl wf_X5_50 dX5_suits_96 ?_
                  refine sd_iload C dX5_suits_99 2 rfl ?_
                  refine sd_iald C (by decide) rfl (s) ⟨by omega, by omega⟩ dX5_suits_101 ?_
                  refine sd_iload C dX5_suits_102 1 rfl ?_
                  refine sd_isub C dX5_suits_104 (by omega) (fun z104 ez104 => ?_)
                  refine sd_goto C 110 dX5_suits_105 (by decide) ?_
                  refine sd_istore (lv' := [(5, .int z104), (8, .int y8), (7, .int y7), (6, .int y6), (0, .ref (ad 76)), (1, .int x1), (2, .int x2), (3, .int x3), (4, .int x4)]) C dX5_suits_110 (by decide) rfl ?_
                  refine sd_iinc C dX5_suits_112 3 rfl (by decide) (by decide) (by omega) (fun zz => [(6, .int zz), (5, .int z104), (8, .int y8), (7, .int y7), (0, .ref (ad 76)), (1, .int x1), (2, .int x2), (3, .int x3), (4, .int x4)]) (fun _ => rfl) (fun u112 eu112 => ?_)
                  refine sd_goto C 6 dX5_suits_115 (by decide) ?_
                  exact sd_lv (ih6 z104 u112 (s + 1) (by omega) (by omega) (fun s' h => by
                        by_cases e : s' = s
                        · subst e; omega
                        · exact H1 s' (by omega)) (fBar_s (by omega) (by omega) (by omega)) (by omega)) [0, 1, 4, 5, 6, 7, 8] rfl
              · refine sd_iconst C dX5_suits_82 (by decide) (fun k82 ek82 => ?_)
                exact hret _ _ _ _ dX5_suits_83 (by omega) (⟨rfl, Or.inr ⟨by omega, fun w => by have := w.1 s (by omega); omega⟩⟩)
            · have u1 := hM.2.2.2.2.2 (4 * f + j) (by omega)
              have hle := sp_ct_le (p := fz_ndp (fun j => β 11 (4 * f + j)) a b s) j
              refine sd_iload C dX5_suits_25 1 rfl ?_
              refine sd_iload C dX5_suits_27 0 rfl ?_
              refine sd_iload_n C dX5_suits_29 7 rfl rfl ?_
              refine sd_icmp_eq C 60 dX5_suits_30 (by decide) (fun c30 => ?_) (fun c30 => ?_)
              · refine sd_iconst C dX5_suits_60 (by decide) (fun k60 ek60 => ?_)
                refine sd_iadd C dX5_suits_61 (by omega) (fun z61 ez61 => ?_)
                refine sd_istore (lv' := [(7, .int z61), (8, .int y8), (6, .int y6), (5, .int y5), (0, .ref (ad 76)), (1, .int x1), (2, .int x2), (3, .int x3), (4, .int x4)]) C dX5_suits_62 (by decide) rfl ?_
                refine sd_iinc C dX5_suits_64 1 rfl (by decide) (by decide) (by omega) (fun zz => [(8, .int zz), (7, .int z61), (6, .int y6), (5, .int y5), (0, .ref (ad 76)), (1, .int x1), (2, .int x2), (3, .int x3), (4, .int x4)]) (fun _ => rfl) (fun u64 eu64 => ?_)
                refine sd_goto C 19 dX5_suits_67 (by decide) ?_
                exact ih19 z61 u64 (j + 1) (by omega) (by omega) (by first | (rw [sp_ct_s (fz_ndp_t (by omega) (by omega) (by omega))]; omega) | (rw [sp_ct_k (fz_ndp_f (by omega))]; omega)) (by omega)
              · refine sd_iload C dX5_suits_33 0 rfl ?_
                refine sd_iload C dX5_suits_35 8 rfl ?_
                refine sd_icmp_eq C 60 dX5_suits_37 (by decide) (fun c37 => ?_) (fun c37 => ?_)
                · refine sd_iconst C dX5_suits_60 (by decide) (fun k60 ek60 => ?_)
                  refine sd_iadd C dX5_suits_61 (by omega) (fun z61 ez61 => ?_)
                  refine sd_istore (lv' := [(7, .int z61), (8, .int y8), (6, .int y6), (5, .int y5), (0, .ref (ad 76)), (1, .int x1), (2, .int x2), (3, .int x3), (4, .int x4)]) C dX5_suits_62 (by decide) rfl ?_
                  refine sd_iinc C dX5_suits_64 1 rfl (by decide) (by decide) (by omega) (fun zz => [(8, .int zz), (7, .int z61), (6, .int y6), (5, .int y5), (0, .ref (ad 76)), (1, .int x1), (2, .int x2), (3, .int x3), (4, .int x4)]) (fun _ => rfl) (fun u64 eu64 => ?_)
                  refine sd_goto C 19 dX5_suits_67 (by decide) ?_
                  exact ih19 z61 u64 (j + 1) (by omega) (by omega) (by first | (rw [sp_ct_s (fz_ndp_t (by omega) (by omega) (by omega))]; omega) | (rw [sp_ct_k (fz_ndp_f (by omega))]; omega)) (by omega)
                · refine sd_aload_n C dX5_suits_40 4 rfl rfl ?_
                  refine sd_get C (by decide) rfl rfl 12 (by decide) rfl wf_X5_41 dX5_suits_41 ?_
                  refine sd_iconst C dX5_suits_44 (by decide) (fun k44 ek44 => ?_)
                  refine sd_iload_n C dX5_suits_45 5 rfl rfl ?_
                  refine sd_imul C dX5_suits_46 (by rw [ek44]; omega) (fun z46 ez46 => ?_)
                  rw [ek44] at ez46
                  refine sd_iload C dX5_suits_47 0 rfl ?_
                  refine sd_iadd C dX5_suits_49 (by omega) (fun z49 ez49 => ?_)
                  refine sd_iald C (by decide) rfl (((4 * f) + j)) ⟨by omega, by omega⟩ dX5_suits_50 ?_
                  refine sd_iload C dX5_suits_51 2 rfl ?_
                  refine sd_icmp_ne C 60 dX5_suits_53 (by decide) (fun c53 => ?_) (fun c53 => ?_)
                  · refine sd_iconst C dX5_suits_60 (by decide) (fun k60 ek60 => ?_)
                    refine sd_iadd C dX5_suits_61 (by omega) (fun z61 ez61 => ?_)
                    refine sd_istore (lv' := [(7, .int z61), (8, .int y8), (6, .int y6), (5, .int y5), (0, .ref (ad 76)), (1, .int x1), (2, .int x2), (3, .int x3), (4, .int x4)]) C dX5_suits_62 (by decide) rfl ?_
                    refine sd_iinc C dX5_suits_64 1 rfl (by decide) (by decide) (by omega) (fun zz => [(8, .int zz), (7, .int z61), (6, .int y6), (5, .int y5), (0, .ref (ad 76)), (1, .int x1), (2, .int x2), (3, .int x3), (4, .int x4)]) (fun _ => rfl) (fun u64 eu64 => ?_)
                    refine sd_goto C 19 dX5_suits_67 (by decide) ?_
                    exact ih19 z61 u64 (j + 1) (by omega) (by omega) (by first | (rw [sp_ct_s (fz_ndp_t (by omega) (by omega) (by omega))]; omega) | (rw [sp_ct_k (fz_ndp_f (by omega))]; omega)) (by omega)
                  · refine sd_iconst C dX5_suits_56 (by decide) (fun k56 ek56 => ?_)
                    refine sd_goto C 61 dX5_suits_57 (by decide) ?_
                    refine sd_iadd C dX5_suits_61 (by omega) (fun z61 ez61 => ?_)
                    refine sd_istore (lv' := [(7, .int z61), (8, .int y8), (6, .int y6), (5, .int y5), (0, .ref (ad 76)), (1, .int x1), (2, .int x2), (3, .int x3), (4, .int x4)]) C dX5_suits_62 (by decide) rfl ?_
                    refine sd_iinc C dX5_suits_64 1 rfl (by decide) (by decide) (by omega) (fun zz => [(8, .int zz), (7, .int z61), (6, .int y6), (5, .int y5), (0, .ref (ad 76)), (1, .int x1), (2, .int x2), (3, .int x3), (4, .int x4)]) (fun _ => rfl) (fun u64 eu64 => ?_)
                    refine sd_goto C 19 dX5_suits_67 (by decide) ?_
                    exact ih19 z61 u64 (j + 1) (by omega) (by omega) (by first | (rw [sp_ct_s (fz_ndp_t (by omega) (by omega) (by omega))]; omega) | (rw [sp_ct_k (fz_ndp_f (by omega))]; omega)) (by omega)
        exact key19 _ k13 k16 0 (by omega) (by omega) (by rw [sp_ct]; exact ek13) (Nat.lt_succ_self _)
  exact key6 _ k0 k3 0 (by omega) (by omega) (fun s h => by omega) (fBar_0 ek0) (Nat.lt_succ_self _)

set_option maxRecDepth 20000 in
set_option maxHeartbeats 4000000 in
theorem c_X5_isWay (l : Launch) (D : va_G) (ad : Nat → Nat) (ca : Nat → ClassId) (T : Nat → Nat) (σ : sd_Mem) (β : sp_B) (l9 : List Nat) (hW : sd_MW σ β l9) (f k a i : Nat) (hf : f < 6) (hk1 : 1 ≤ k) (hk : k ≤ (β 7 f).toNat) (hi : a + i < l9.length) (hbt : ∀ s : Nat, s < 8 → (σ 90 s).toInt = (fz_cnt (fun i => β 3 (l9.getD (a + i) 0)) (s : Int) (i - 1) : Int)) (hmd : (σ 76 19).toInt = (fz_g (fun j => β 11 (4 * f + j)) (fun i => β 3 (l9.getD (a + i) 0)) (k - 2) (i - 1) : Int)) (x1 x2 x3 x4 : Int32) (hx1 : x1.toInt = (f : Int)) (hx2 : x2.toInt = (k : Int)) (hx3 : x3.toInt = (a : Int)) (hx4 : x4.toInt = (a : Int) + (i : Int)) : sd_Cz l yX5_isWay cX5_isWay 10 1 D ad ca T σ [.ref (ad 76), .int x1, .int x2, .int x3, .int x4] (fun r σ' => σ' = σ ∧ ((r.toInt = 1 ∧ fT β f l9 a i (2 ^ k - 1) = true) ∨ (r.toInt = 0 ∧ fT β f l9 a i (2 ^ k - 1) = false))) := by
  refine sd_ent_z (own := RX5) (by decide) rfl (Nat.le_of_ble_eq_true rfl) (fun X C hret => ?_)
  show sd_Wd X 10 D ad ca σ [(0, .ref (ad 76)), (1, .int x1), (2, .int x2), (3, .int x3), (4, .int x4)] 0 []
  obtain ⟨hM, hG, hz, hrow, hl9, hlt⟩ := id hW
  have tg := hG.2.2.2.2.1 f hf
  have to := (hM.2.2.2.2.1 f hf).1
  have t1 := hW.at (j := a) (by omega)
  have t2 := hW.at (j := a + i) hi
  have u0 := hM.2.2.2.2.2 (4 * f) (by omega)
  have hst : ∀ j, j < (β 7 f).toNat → 0 ≤ β 11 (4 * f + j) ∧ β 11 (4 * f + j) < 8 := fun j hj => hG.2.2.2.2.2 (4 * f + j) (by omega)
  have hxs : ∀ n, n ≤ i → 0 ≤ β 3 (l9.getD (a + n) 0) ∧ β 3 (l9.getD (a + n) 0) < 8 := fun n hn => by have := hW.at (j := a + n) (by omega); exact ⟨this.2.2.2.2.2.2.2.2.1, this.2.2.2.2.2.2.2.2.2⟩
  have hbt2 : ∀ s, s < 8 → (σ 90 s).toInt = (fz_cnt (fun i => β 3 (l9.getD (a + i) 0)) (s : Int) (i - 1) : Int) ∧ fz_cnt (fun i => β 3 (l9.getD (a + i) 0)) (s : Int) (i - 1) ≤ 200 := fun s hs => ⟨hbt s hs, by have := fz_cnt_le (fun i => β 3 (l9.getD (a + i) 0)) (s : Int) (i - 1); omega⟩
  refine sd_aload_n C dX5_isWay_0 0 rfl rfl ?_
  refine sd_get C (by decide) rfl rfl 3 (by decide) rfl wf_X5_16 dX5_isWay_1 ?_
  refine sd_aload_n C dX5_isWay_4 0 rfl rfl ?_
  refine sd_get C (by decide) rfl rfl 13 (by decide) rfl wf_X5_44 dX5_isWay_5 ?_
  refine sd_iload_n C dX5_isWay_8 3 rfl rfl ?_
  refine sd_iald C (by decide) rfl (a) ⟨by omega, by omega⟩ dX5_isWay_9 ?_
  refine sd_iald C (by decide) rfl (l9.getD a 0) ⟨by omega, by omega⟩ dX5_isWay_10 ?_
  refine sd_istore (lv' := [(5, .int (σ 79 (l9.getD a 0))), (0, .ref (ad 76)), (1, .int x1), (2, .int x2), (3, .int x3), (4, .int x4)]) C dX5_isWay_11 (by decide) rfl ?_
  refine sd_aload_n C dX5_isWay_13 1 rfl rfl ?_
  refine sd_get C (by decide) rfl rfl 3 (by decide) rfl wf_X5_16 dX5_isWay_14 ?_
  refine sd_aload_n C dX5_isWay_17 1 rfl rfl ?_
  refine sd_get C (by decide) rfl rfl 13 (by decide) rfl wf_X5_44 dX5_isWay_18 ?_
  refine sd_iload C dX5_isWay_21 5 rfl ?_
  refine sd_iald C (by decide) rfl ((a + i)) ⟨by omega, by omega⟩ dX5_isWay_23 ?_
  refine sd_iald C (by decide) rfl (l9.getD (a + i) 0) ⟨by omega, by omega⟩ dX5_isWay_24 ?_
  refine sd_istore (lv' := [(6, .int (σ 79 (l9.getD (a + i) 0))), (5, .int (σ 79 (l9.getD a 0))), (0, .ref (ad 76)), (1, .int x1), (2, .int x2), (3, .int x3), (4, .int x4)]) C dX5_isWay_25 (by decide) rfl ?_
  refine sd_iload_n C dX5_isWay_27 5 rfl rfl ?_
  refine sd_iload C dX5_isWay_28 6 rfl ?_
  refine sd_icmp_ne C 57 dX5_isWay_30 (by decide) (fun c30 => ?_) (fun c30 => ?_)
  · obtain ⟨n, hn⟩ : ∃ n, i = n + 1 := ⟨i - 1, by omega⟩
    refine sd_iload_n C dX5_isWay_57 4 rfl rfl ?_
    refine sd_iconst C dX5_isWay_58 (by decide) (fun k58 ek58 => ?_)
    refine sd_icmp_ge C 64 dX5_isWay_59 (by decide) (fun c59 => ?_) (fun c59 => ?_)
    · refine sd_aload_n C dX5_isWay_64 2 rfl rfl ?_
      refine sd_get C (by decide) rfl rfl 8 (by decide) rfl wf_X5_29 dX5_isWay_65 ?_
      refine sd_iload_n C dX5_isWay_68 3 rfl rfl ?_
      refine sd_zald C (by decide) rfl (f) ⟨by omega, by omega⟩ dX5_isWay_69 ?_
      refine sd_if_eq C 132 dX5_isWay_70 (by decide) (fun c70 => ?_) (fun c70 => ?_)
      · have uw := fHd_i (fW_U (l := l9) (a := a) (n := n) hf (by omega : (β 7 f).toNat ≤ 4) (by omega : 2 ≤ k) hk hst (fun m hm => hxs m (by omega)) (by omega))
        rw [← hn] at uw
        refine sd_iconst C dX5_isWay_132 (by decide) (fun k132 ek132 => ?_)
        refine sd_istore (lv' := [(7, .int k132), (6, .int (σ 79 (l9.getD (a + i) 0))), (5, .int (σ 79 (l9.getD a 0))), (0, .ref (ad 76)), (1, .int x1), (2, .int x2), (3, .int x3), (4, .int x4)]) C dX5_isWay_133 (by decide) rfl ?_
        refine sd_iconst C dX5_isWay_135 (by decide) (fun k135 ek135 => ?_)
        refine sd_istore (lv' := [(8, .int k135), (7, .int k132), (6, .int (σ 79 (l9.getD (a + i) 0))), (5, .int (σ 79 (l9.getD a 0))), (0, .ref (ad 76)), (1, .int x1), (2, .int x2), (3, .int x3), (4, .int x4)]) C dX5_isWay_136 (by decide) rfl ?_
        have key138 : ∀ (fu138 : Nat) (y7 : Int32) (y8 : Int32) (p : Nat), (y8.toInt = (p : Int)) → (p ≤ k) → (fF (fPP (fun j => β 11 (4 * f + j)) (fun i => β 3 (l9.getD (a + i) 0)) (β 10 f) k i) k y7.toInt p 0) → (k - p < fu138) → sd_Wd X 10 D ad ca σ [(8, .int y8), (7, .int y7), (6, .int (σ 79 (l9.getD (a + i) 0))), (5, .int (σ 79 (l9.getD a 0))), (0, .ref (ad 76)), (1, .int x1), (2, .int x2), (3, .int x3), (4, .int x4)] 138 [] := by
          intro fu138
          induction fu138 with
          | zero => intro y7 y8 p h8 hp H7 hm138; exact absurd hm138 (Nat.not_lt_zero _)
          | succ fu138 ih138 =>
            intro y7 y8 p h8 hp H7 hm138
            have hb7 := fF_b H7
            refine sd_iload C dX5_isWay_138 0 rfl ?_
            refine sd_iload_n C dX5_isWay_140 6 rfl rfl ?_
            refine sd_icmp_ge C 234 dX5_isWay_141 (by decide) (fun c141 => ?_) (fun c141 => ?_)
            · refine sd_iload C dX5_isWay_234 1 rfl ?_
              exact hret _ _ _ _ dX5_isWay_236 (by omega) (⟨rfl, by
                  rcases fF_end H7 (by omega) with ⟨w1, w2⟩ | ⟨w1, w2⟩
                  · exact Or.inl ⟨w1, (fHd_g uw).mpr w2⟩
                  · exact Or.inr ⟨w1, fT_not (fun z => w2 ((fHd_g uw).mp z))⟩⟩)
            · refine sd_iload C dX5_isWay_144 1 rfl ?_
              refine sd_if_ne C 234 dX5_isWay_146 (by decide) (fun c146 => ?_) (fun c146 => ?_)
              · refine sd_iload C dX5_isWay_234 1 rfl ?_
                exact hret _ _ _ _ dX5_isWay_236 (by omega) (⟨rfl, by
                    rcases fF_end H7 (by omega) with ⟨w1, w2⟩ | ⟨w1, w2⟩
                    · exact Or.inl ⟨w1, (fHd_g uw).mpr w2⟩
                    · exact Or.inr ⟨w1, fT_not (fun z => w2 ((fHd_g uw).mp z))⟩⟩)
              · refine sd_iconst C dX5_isWay_149 (by decide) (fun k149 ek149 => ?_)
                refine sd_istore (lv' := [(9, .int k149), (8, .int y8), (7, .int y7), (6, .int (σ 79 (l9.getD (a + i) 0))), (5, .int (σ 79 (l9.getD a 0))), (0, .ref (ad 76)), (1, .int x1), (2, .int x2), (3, .int x3), (4, .int x4)]) C dX5_isWay_150 (by decide) rfl ?_
                have key152 : ∀ (fu152 : Nat) (w7 : Int32) (y9 : Int32) (q : Nat), (y9.toInt = (q : Int)) → (q ≤ k) → (fF (fPP (fun j => β 11 (4 * f + j)) (fun i => β 3 (l9.getD (a + i) 0)) (β 10 f) k i) k w7.toInt p q) → (k - q < fu152) → sd_Wd X 10 D ad ca σ [(9, .int y9), (7, .int w7), (8, .int y8), (6, .int (σ 79 (l9.getD (a + i) 0))), (5, .int (σ 79 (l9.getD a 0))), (0, .ref (ad 76)), (1, .int x1), (2, .int x2), (3, .int x3), (4, .int x4)] 152 [] := by
                  intro fu152
                  induction fu152 with
                  | zero => intro w7 y9 q h9 hq H8 hm152; exact absurd hm152 (Nat.not_lt_zero _)
                  | succ fu152 ih152 =>
                    intro w7 y9 q h9 hq H8 hm152
                    have hb8 := fF_b H8
                    refine sd_iload C dX5_isWay_152 0 rfl ?_
                    refine sd_iload_n C dX5_isWay_154 7 rfl rfl ?_
                    refine sd_icmp_ge C 228 dX5_isWay_155 (by decide) (fun c155 => ?_) (fun c155 => ?_)
                    · refine sd_iinc C dX5_isWay_228 2 rfl (by decide) (by decide) (by omega) (fun zz => [(8, .int zz), (9, .int y9), (7, .int w7), (6, .int (σ 79 (l9.getD (a + i) 0))), (5, .int (σ 79 (l9.getD a 0))), (0, .ref (ad 76)), (1, .int x1), (2, .int x2), (3, .int x3), (4, .int x4)]) (fun _ => rfl) (fun u228 eu228 => ?_)
                      refine sd_goto C 138 dX5_isWay_231 (by decide) ?_
                      exact sd_lv (ih138 w7 u228 (p + 1) (by omega) (by omega) (fF_row H8 (by omega)) (by omega)) [0, 2, 3, 4, 5, 6, 7, 8, 9] rfl
                    · refine sd_iload C dX5_isWay_158 1 rfl ?_
                      refine sd_if_ne C 228 dX5_isWay_160 (by decide) (fun c160 => ?_) (fun c160 => ?_)
                      · refine sd_iinc C dX5_isWay_228 2 rfl (by decide) (by decide) (by omega) (fun zz => [(8, .int zz), (9, .int y9), (7, .int w7), (6, .int (σ 79 (l9.getD (a + i) 0))), (5, .int (σ 79 (l9.getD a 0))), (0, .ref (ad 76)), (1, .int x1), (2, .int x2), (3, .int x3), (4, .int x4)]) (fun _ => rfl) (fun u228 eu228 => ?_)
                        refine sd_goto C 138 dX5_isWay_231 (by decide) ?_
                        exact sd_lv (ih138 w7 u228 (p + 1) (by omega) (by omega) (fF_row H8 (by omega)) (by omega)) [0, 2, 3, 4, 5, 6, 7, 8, 9] rfl
                      · refine sd_iload C dX5_isWay_163 2 rfl ?_
                        refine sd_iload C dX5_isWay_165 0 rfl ?_
                        refine sd_icmp_eq C 219 dX5_isWay_167 (by decide) (fun c167 => ?_) (fun c167 => ?_)
                        · refine sd_iconst C dX5_isWay_219 (by decide) (fun k219 ek219 => ?_)
                          refine sd_istore (lv' := [(7, .int k219), (9, .int y9), (8, .int y8), (6, .int (σ 79 (l9.getD (a + i) 0))), (5, .int (σ 79 (l9.getD a 0))), (0, .ref (ad 76)), (1, .int x1), (2, .int x2), (3, .int x3), (4, .int x4)]) C dX5_isWay_220 (by decide) rfl ?_
                          refine sd_iinc C dX5_isWay_222 1 rfl (by decide) (by decide) (by omega) (fun zz => [(9, .int zz), (7, .int k219), (8, .int y8), (6, .int (σ 79 (l9.getD (a + i) 0))), (5, .int (σ 79 (l9.getD a 0))), (0, .ref (ad 76)), (1, .int x1), (2, .int x2), (3, .int x3), (4, .int x4)]) (fun _ => rfl) (fun u222 eu222 => ?_)
                          refine sd_goto C 152 dX5_isWay_225 (by decide) ?_
                          exact ih152 k219 u222 (q + 1) (by omega) (by omega) (fF_no H8 (by omega) ek219 (by first | (rcases h209 with w | w; exact absurd w.1 (by omega); exact fun z => w.2 z.2.2.2) | exact fun z => absurd z.1 (by omega) | exact fun z => absurd (show β 11 (4 * f + p) = β 3 (l9.getD a 0) from z.2.1) (by omega) | exact fun z => absurd (show β 11 (4 * f + q) = β 3 (l9.getD (a + i) 0) from z.2.2.1) (by omega))) (by omega)
                        · have u1 := hM.2.2.2.2.2 (4 * f + p) (by omega)
                          refine sd_aload_n C dX5_isWay_170 5 rfl rfl ?_
                          refine sd_get C (by decide) rfl rfl 12 (by decide) rfl wf_X5_41 dX5_isWay_171 ?_
                          refine sd_iconst C dX5_isWay_174 (by decide) (fun k174 ek174 => ?_)
                          refine sd_iload_n C dX5_isWay_175 6 rfl rfl ?_
                          refine sd_imul C dX5_isWay_176 (by rw [ek174]; omega) (fun z176 ez176 => ?_)
                          rw [ek174] at ez176
                          refine sd_iload C dX5_isWay_177 2 rfl ?_
                          refine sd_iadd C dX5_isWay_179 (by omega) (fun z179 ez179 => ?_)
                          refine sd_iald C (by decide) rfl (4 * f + p) ⟨by omega, by omega⟩ dX5_isWay_180 ?_
                          refine sd_iload C dX5_isWay_181 4 rfl ?_
                          refine sd_icmp_ne C 219 dX5_isWay_183 (by decide) (fun c183 => ?_) (fun c183 => ?_)
                          · refine sd_iconst C dX5_isWay_219 (by decide) (fun k219 ek219 => ?_)
                            refine sd_istore (lv' := [(7, .int k219), (9, .int y9), (8, .int y8), (6, .int (σ 79 (l9.getD (a + i) 0))), (5, .int (σ 79 (l9.getD a 0))), (0, .ref (ad 76)), (1, .int x1), (2, .int x2), (3, .int x3), (4, .int x4)]) C dX5_isWay_220 (by decide) rfl ?_
                            refine sd_iinc C dX5_isWay_222 1 rfl (by decide) (by decide) (by omega) (fun zz => [(9, .int zz), (7, .int k219), (8, .int y8), (6, .int (σ 79 (l9.getD (a + i) 0))), (5, .int (σ 79 (l9.getD a 0))), (0, .ref (ad 76)), (1, .int x1), (2, .int x2), (3, .int x3), (4, .int x4)]) (fun _ => rfl) (fun u222 eu222 => ?_)
                            refine sd_goto C 152 dX5_isWay_225 (by decide) ?_
                            exact ih152 k219 u222 (q + 1) (by omega) (by omega) (fF_no H8 (by omega) ek219 (by first | (rcases h209 with w | w; exact absurd w.1 (by omega); exact fun z => w.2 z.2.2.2) | exact fun z => absurd z.1 (by omega) | exact fun z => absurd (show β 11 (4 * f + p) = β 3 (l9.getD a 0) from z.2.1) (by omega) | exact fun z => absurd (show β 11 (4 * f + q) = β 3 (l9.getD (a + i) 0) from z.2.2.1) (by omega))) (by omega)
                          · have u2 := hM.2.2.2.2.2 (4 * f + q) (by omega)
                            refine sd_aload_n C dX5_isWay_186 5 rfl rfl ?_
                            refine sd_get C (by decide) rfl rfl 12 (by decide) rfl wf_X5_41 dX5_isWay_187 ?_
                            refine sd_iconst C dX5_isWay_190 (by decide) (fun k190 ek190 => ?_)
                            refine sd_iload_n C dX5_isWay_191 6 rfl rfl ?_
                            refine sd_imul C dX5_isWay_192 (by rw [ek190]; omega) (fun z192 ez192 => ?_)
                            rw [ek190] at ez192
                            refine sd_iload C dX5_isWay_193 0 rfl ?_
                            refine sd_iadd C dX5_isWay_195 (by omega) (fun z195 ez195 => ?_)
                            refine sd_iald C (by decide) rfl (4 * f + q) ⟨by omega, by omega⟩ dX5_isWay_196 ?_
                            refine sd_iload C dX5_isWay_197 3 rfl ?_
                            refine sd_icmp_ne C 219 dX5_isWay_199 (by decide) (fun c199 => ?_) (fun c199 => ?_)
                            · refine sd_iconst C dX5_isWay_219 (by decide) (fun k219 ek219 => ?_)
                              refine sd_istore (lv' := [(7, .int k219), (9, .int y9), (8, .int y8), (6, .int (σ 79 (l9.getD (a + i) 0))), (5, .int (σ 79 (l9.getD a 0))), (0, .ref (ad 76)), (1, .int x1), (2, .int x2), (3, .int x3), (4, .int x4)]) C dX5_isWay_220 (by decide) rfl ?_
                              refine sd_iinc C dX5_isWay_222 1 rfl (by decide) (by decide) (by omega) (fun zz => [(9, .int zz), (7, .int k219), (8, .int y8), (6, .int (σ 79 (l9.getD (a + i) 0))), (5, .int (σ 79 (l9.getD a 0))), (0, .ref (ad 76)), (1, .int x1), (2, .int x2), (3, .int x3), (4, .int x4)]) (fun _ => rfl) (fun u222 eu222 => ?_)
                              refine sd_goto C 152 dX5_isWay_225 (by decide) ?_
                              exact ih152 k219 u222 (q + 1) (by omega) (by omega) (fF_no H8 (by omega) ek219 (by first | (rcases h209 with w | w; exact absurd w.1 (by omega); exact fun z => w.2 z.2.2.2) | exact fun z => absurd z.1 (by omega) | exact fun z => absurd (show β 11 (4 * f + p) = β 3 (l9.getD a 0) from z.2.1) (by omega) | exact fun z => absurd (show β 11 (4 * f + q) = β 3 (l9.getD (a + i) 0) from z.2.2.1) (by omega))) (by omega)
                            · refine sd_aload_n C dX5_isWay_202 5 rfl rfl ?_
                              refine sd_iload_n C dX5_isWay_203 6 rfl rfl ?_
                              refine sd_iload_n C dX5_isWay_204 7 rfl rfl ?_
                              refine sd_iload C dX5_isWay_205 2 rfl ?_
                              refine sd_iload C dX5_isWay_207 0 rfl ?_
                              refine sd_pVz C (c_X5_suits l D ad ca T σ β hM hG f k p q hf (by omega) (fun s => fz_cnt (fun i => β 3 (l9.getD (a + i) 0)) (s : Int) (i - 1)) hbt2 x1 x2 y8 y9 hx1 hx2 h8 h9) mv_X5_suits wm_X5_143 (by decide) rfl rfl (by decide) rfl rfl (Nat.le_of_ble_eq_true rfl) dX5_isWay_209 (fun r209 h209 => ?_)
                              try dsimp only at h209
                              refine sd_if_eq C 219 dX5_isWay_212 (by decide) (fun c212 => ?_) (fun c212 => ?_)
                              · refine sd_iconst C dX5_isWay_219 (by decide) (fun k219 ek219 => ?_)
                                refine sd_istore (lv' := [(7, .int k219), (9, .int y9), (8, .int y8), (6, .int (σ 79 (l9.getD (a + i) 0))), (5, .int (σ 79 (l9.getD a 0))), (0, .ref (ad 76)), (1, .int x1), (2, .int x2), (3, .int x3), (4, .int x4)]) C dX5_isWay_220 (by decide) rfl ?_
                                refine sd_iinc C dX5_isWay_222 1 rfl (by decide) (by decide) (by omega) (fun zz => [(9, .int zz), (7, .int k219), (8, .int y8), (6, .int (σ 79 (l9.getD (a + i) 0))), (5, .int (σ 79 (l9.getD a 0))), (0, .ref (ad 76)), (1, .int x1), (2, .int x2), (3, .int x3), (4, .int x4)]) (fun _ => rfl) (fun u222 eu222 => ?_)
                                refine sd_goto C 152 dX5_isWay_225 (by decide) ?_
                                exact ih152 k219 u222 (q + 1) (by omega) (by omega) (fF_no H8 (by omega) ek219 (by first | (rcases h209 with w | w; exact absurd w.1 (by omega); exact fun z => w.2 z.2.2.2) | exact fun z => absurd z.1 (by omega) | exact fun z => absurd (show β 11 (4 * f + p) = β 3 (l9.getD a 0) from z.2.1) (by omega) | exact fun z => absurd (show β 11 (4 * f + q) = β 3 (l9.getD (a + i) 0) from z.2.2.1) (by omega))) (by omega)
                              · refine sd_iconst C dX5_isWay_215 (by decide) (fun k215 ek215 => ?_)
                                refine sd_goto C 220 dX5_isWay_216 (by decide) ?_
                                refine sd_istore (lv' := [(7, .int k215), (9, .int y9), (8, .int y8), (6, .int (σ 79 (l9.getD (a + i) 0))), (5, .int (σ 79 (l9.getD a 0))), (0, .ref (ad 76)), (1, .int x1), (2, .int x2), (3, .int x3), (4, .int x4)]) C dX5_isWay_220 (by decide) rfl ?_
                                refine sd_iinc C dX5_isWay_222 1 rfl (by decide) (by decide) (by omega) (fun zz => [(9, .int zz), (7, .int k215), (8, .int y8), (6, .int (σ 79 (l9.getD (a + i) 0))), (5, .int (σ 79 (l9.getD a 0))), (0, .ref (ad 76)), (1, .int x1), (2, .int x2), (3, .int x3), (4, .int x4)]) (fun _ => rfl) (fun u222 eu222 => ?_)
                                refine sd_goto C 152 dX5_isWay_225 (by decide) ?_
                                exact ih152 k215 u222 (q + 1) (by omega) (by omega) (fF_yes (by omega) (by omega) ek215 (by rcases h209 with w | w; exact ⟨by omega, (show β 11 (4 * f + p) = β 3 (l9.getD a 0) by omega), (show β 11 (4 * f + q) = β 3 (l9.getD (a + i) 0) by omega), w.2⟩; exact absurd w.1 (by omega))) (by omega)
                exact sd_lv (key152 _ y7 k149 0 (by omega) (by omega) H7 (Nat.lt_succ_self _)) [0, 2, 1, 3, 4, 5, 6, 7, 8, 9] rfl
        exact key138 _ k132 k135 0 (by omega) (by omega) (fF_0 ek132) (Nat.lt_succ_self _)
      · have uw := fW_O (l := l9) (a := a) (n := n) hf (by omega : (β 7 f).toNat ≤ 4) (by omega : 2 ≤ k) hk hst (fun m hm => hxs m (by omega)) (by omega)
        rw [← hn, show n = i - 1 by omega] at uw
        refine sd_iload C dX5_isWay_73 1 rfl ?_
        refine sd_aload_n C dX5_isWay_75 2 rfl rfl ?_
        refine sd_get C (by decide) rfl rfl 12 (by decide) rfl wf_X5_41 dX5_isWay_76 ?_
        refine sd_iconst C dX5_isWay_79 (by decide) (fun k79 ek79 => ?_)
        refine sd_iload_n C dX5_isWay_80 3 rfl rfl ?_
        refine sd_imul C dX5_isWay_81 (by rw [ek79]; omega) (fun z81 ez81 => ?_)
        rw [ek79] at ez81
        refine sd_iald C (by decide) rfl (4 * f) ⟨by omega, by omega⟩ dX5_isWay_82 ?_
        refine sd_icmp_ne C 130 dX5_isWay_83 (by decide) (fun c83 => ?_) (fun c83 => ?_)
        · refine sd_iconst C dX5_isWay_130 (by decide) (fun k130 ek130 => ?_)
          exact hret _ _ _ _ dX5_isWay_131 (by omega) (⟨rfl, Or.inr ⟨by omega, fT_not (fun z => by
              have zz := uw.mp z
              first
                | (rcases h120 with w | w
                   · exact absurd w.1 (by omega)
                   · exact w.2 zz.2.2.2)
                | (have z1 := zz.1; omega)
                | (have z2 := zz.2.1; omega)
                | (have z3 := zz.2.2.1; omega))⟩⟩)
        · have u1 := hM.2.2.2.2.2 (4 * f + (k - 1)) (by omega)
          refine sd_iload C dX5_isWay_86 0 rfl ?_
          refine sd_aload_n C dX5_isWay_88 2 rfl rfl ?_
          refine sd_get C (by decide) rfl rfl 12 (by decide) rfl wf_X5_41 dX5_isWay_89 ?_
          refine sd_iconst C dX5_isWay_92 (by decide) (fun k92 ek92 => ?_)
          refine sd_iload_n C dX5_isWay_93 3 rfl rfl ?_
          refine sd_imul C dX5_isWay_94 (by rw [ek92]; omega) (fun z94 ez94 => ?_)
          rw [ek92] at ez94
          refine sd_iload_n C dX5_isWay_95 4 rfl rfl ?_
          refine sd_iadd C dX5_isWay_96 (by omega) (fun z96 ez96 => ?_)
          refine sd_iconst C dX5_isWay_97 (by decide) (fun k97 ek97 => ?_)
          refine sd_isub C dX5_isWay_98 (by omega) (fun z98 ez98 => ?_)
          refine sd_iald C (by decide) rfl (4 * f + (k - 1)) ⟨by omega, by omega⟩ dX5_isWay_99 ?_
          refine sd_icmp_ne C 130 dX5_isWay_100 (by decide) (fun c100 => ?_) (fun c100 => ?_)
          · refine sd_iconst C dX5_isWay_130 (by decide) (fun k130 ek130 => ?_)
            exact hret _ _ _ _ dX5_isWay_131 (by omega) (⟨rfl, Or.inr ⟨by omega, fT_not (fun z => by
                have zz := uw.mp z
                first
                  | (rcases h120 with w | w
                     · exact absurd w.1 (by omega)
                     · exact w.2 zz.2.2.2)
                  | (have z1 := zz.1; omega)
                  | (have z2 := zz.2.1; omega)
                  | (have z3 := zz.2.2.1; omega))⟩⟩)
          · refine sd_aload_n C dX5_isWay_103 2 rfl rfl ?_
            refine sd_get C (by decide) rfl rfl 19 (by decide) rfl wf_X5_140 dX5_isWay_104 ?_
            refine sd_iload_n C dX5_isWay_107 4 rfl rfl ?_
            refine sd_iconst C dX5_isWay_108 (by decide) (fun k108 ek108 => ?_)
            refine sd_isub C dX5_isWay_109 (by omega) (fun z109 ez109 => ?_)
            refine sd_icmp_ne C 130 dX5_isWay_110 (by decide) (fun c110 => ?_) (fun c110 => ?_)
            · refine sd_iconst C dX5_isWay_130 (by decide) (fun k130 ek130 => ?_)
              exact hret _ _ _ _ dX5_isWay_131 (by omega) (⟨rfl, Or.inr ⟨by omega, fT_not (fun z => by
                  have zz := uw.mp z
                  first
                    | (rcases h120 with w | w
                       · exact absurd w.1 (by omega)
                       · exact w.2 zz.2.2.2)
                    | (have z1 := zz.1; omega)
                    | (have z2 := zz.2.1; omega)
                    | (have z3 := zz.2.2.1; omega))⟩⟩)
            · refine sd_aload_n C dX5_isWay_113 2 rfl rfl ?_
              refine sd_iload_n C dX5_isWay_114 3 rfl rfl ?_
              refine sd_iload_n C dX5_isWay_115 4 rfl rfl ?_
              refine sd_iconst C dX5_isWay_116 (by decide) (fun k116 ek116 => ?_)
              refine sd_iload_n C dX5_isWay_117 4 rfl rfl ?_
              refine sd_iconst C dX5_isWay_118 (by decide) (fun k118 ek118 => ?_)
              refine sd_isub C dX5_isWay_119 (by omega) (fun z119 ez119 => ?_)
              refine sd_pVz C (c_X5_suits l D ad ca T σ β hM hG f k 0 (k - 1) hf (by omega) (fun s => fz_cnt (fun i => β 3 (l9.getD (a + i) 0)) (s : Int) (i - 1)) hbt2 x1 x2 k116 z119 hx1 hx2 (by omega) (by omega)) mv_X5_suits wm_X5_143 (by decide) rfl rfl (by decide) rfl rfl (Nat.le_of_ble_eq_true rfl) dX5_isWay_120 (fun r120 h120 => ?_)
              try dsimp only at h120
              refine sd_if_eq C 130 dX5_isWay_123 (by decide) (fun c123 => ?_) (fun c123 => ?_)
              · refine sd_iconst C dX5_isWay_130 (by decide) (fun k130 ek130 => ?_)
                exact hret _ _ _ _ dX5_isWay_131 (by omega) (⟨rfl, Or.inr ⟨by omega, fT_not (fun z => by
                    have zz := uw.mp z
                    first
                      | (rcases h120 with w | w
                         · exact absurd w.1 (by omega)
                         · exact w.2 zz.2.2.2)
                      | (have z1 := zz.1; omega)
                      | (have z2 := zz.2.1; omega)
                      | (have z3 := zz.2.2.1; omega))⟩⟩)
              · refine sd_iconst C dX5_isWay_126 (by decide) (fun k126 ek126 => ?_)
                refine sd_goto C 131 dX5_isWay_127 (by decide) ?_
                exact hret _ _ _ _ dX5_isWay_131 (by omega) (⟨rfl, Or.inl ⟨by omega, uw.mpr ⟨by omega, by omega, by omega, by rcases h120 with w | w; exact w.2; exact absurd w.1 (by omega)⟩⟩⟩)
    · refine sd_iconst C dX5_isWay_62 (by decide) (fun k62 ek62 => ?_)
      exact hret _ _ _ _ dX5_isWay_63 (by omega) (⟨rfl, Or.inr ⟨by omega, by rw [hn, show k = 1 by omega]; exact fz_way_k1 (by omega)⟩⟩)
  · refine sd_iload_n C dX5_isWay_33 4 rfl rfl ?_
    refine sd_iconst C dX5_isWay_34 (by decide) (fun k34 ek34 => ?_)
    refine sd_icmp_ne C 55 dX5_isWay_35 (by decide) (fun c35 => ?_) (fun c35 => ?_)
    · refine sd_iconst C dX5_isWay_55 (by decide) (fun k55 ek55 => ?_)
      exact hret _ _ _ _ dX5_isWay_56 (by omega) (⟨rfl, Or.inr ⟨by omega, fT_not (fun z => by have := (fW_1 (l := l9) (a := a) (i := i) (by omega) (by omega) hk1 hk).mp z; omega)⟩⟩)
    · refine sd_iload C dX5_isWay_38 1 rfl ?_
      refine sd_aload_n C dX5_isWay_40 2 rfl rfl ?_
      refine sd_get C (by decide) rfl rfl 12 (by decide) rfl wf_X5_41 dX5_isWay_41 ?_
      refine sd_iconst C dX5_isWay_44 (by decide) (fun k44 ek44 => ?_)
      refine sd_iload_n C dX5_isWay_45 3 rfl rfl ?_
      refine sd_imul C dX5_isWay_46 (by rw [ek44]; omega) (fun z46 ez46 => ?_)
      rw [ek44] at ez46
      refine sd_iald C (by decide) rfl (4 * f) ⟨by omega, by omega⟩ dX5_isWay_47 ?_
      refine sd_icmp_ne C 55 dX5_isWay_48 (by decide) (fun c48 => ?_) (fun c48 => ?_)
      · refine sd_iconst C dX5_isWay_55 (by decide) (fun k55 ek55 => ?_)
        exact hret _ _ _ _ dX5_isWay_56 (by omega) (⟨rfl, Or.inr ⟨by omega, fT_not (fun z => by have := (fW_1 (l := l9) (a := a) (i := i) (by omega) (by omega) hk1 hk).mp z; omega)⟩⟩)
      · refine sd_iconst C dX5_isWay_51 (by decide) (fun k51 ek51 => ?_)
        refine sd_goto C 56 dX5_isWay_52 (by decide) ?_
        exact hret _ _ _ _ dX5_isWay_56 (by omega) (⟨rfl, Or.inl ⟨by omega, (fW_1 (l := l9) (a := a) (i := i) (by omega) (by omega) hk1 hk).mpr ⟨by omega, by omega⟩⟩⟩)

theorem sd_MR_funnel {σ σ' : sd_Mem} {β : sp_B} (hM : sd_MR σ β) {o w b z : Int32} {f : Nat} (hf : β 0 1 = (f : Int)) (h6 : f < 6) (h0 : ∀ i k, ¬ (i = 83 ∧ k = f) → ¬ (i = 84 ∧ k = f) → ¬ (i = 85 ∧ k = f) → ¬ (i = 86 ∧ k = f) → ¬ (i = 76 ∧ k = 7) → σ' i k = σ i k) (h1 : (σ' 76 7).toInt = (f : Int) + 1) (h2 : σ' 83 f = o) (h3 : σ' 84 f = w) (h4 : σ' 85 f = b) (h5 : (σ' 86 f).toInt = 0) : sd_MR σ' (b_funnel β o.toInt w.toInt b.toInt) := by
  have ef : (β 0 1).toNat = f := by omega
  obtain ⟨⟨a1, a2⟩, b1, c, d, e, g⟩ := hM
  unfold b_funnel
  rw [ef]
  refine ⟨⟨?_, ?_⟩, fun c1 hc => ?_, fun p hp => ?_, fun k hk => ?_, fun f1 hf1 => ?_, fun k hk => ?_⟩
  · rw [h0 76 0 (by omega) (by omega) (by omega) (by omega) (by omega)]; simp only [b_set]; simp; exact a1
  · simp only [b_set]; simp; omega
  · rw [h0 77 _ (by omega) (by omega) (by omega) (by omega) (by omega), h0 78 _ (by omega) (by omega) (by omega) (by omega) (by omega), h0 79 _ (by omega) (by omega) (by omega) (by omega) (by omega), h0 80 _ (by omega) (by omega) (by omega) (by omega) (by omega)]; simp only [b_set]; simp; exact b1 c1 hc
  · rw [h0 81 _ (by omega) (by omega) (by omega) (by omega) (by omega)]; simp only [b_set]; simp; exact c p hp
  · rw [h0 82 _ (by omega) (by omega) (by omega) (by omega) (by omega)]; simp only [b_set]; simp; exact d k hk
  · by_cases q : f1 = f
    · subst q
      rw [h2, h3, h4]
      simp only [b_set]; simp; exact h5
    · rw [h0 83 f1 (by omega) (by omega) (by omega) (by omega) (by omega), h0 84 f1 (by omega) (by omega) (by omega) (by omega) (by omega), h0 85 f1 (by omega) (by omega) (by omega) (by omega) (by omega), h0 86 f1 (by omega) (by omega) (by omega) (by omega) (by omega)]
      simp only [b_set]; simp [q]; exact e f1 hf1
  · rw [h0 87 k (by omega) (by omega) (by omega) (by omega) (by omega)]; simp only [b_set]; simp; exact g k hk
theorem sd_MR_step {σ σ' : sd_Mem} {β : sp_B} (hM : sd_MR σ β) (hG : sd_RG β) {f : Nat} {s : Int32} (h6 : f < 6) (hz : β 7 f < 4) (h0 : ∀ i k, ¬ (i = 87 ∧ k = 4 * f + (β 7 f).toNat) → ¬ (i = 86 ∧ k = f) → σ' i k = σ i k) (h1 : (σ' 86 f).toInt = β 7 f + 1) (h2 : σ' 87 (4 * f + (β 7 f).toNat) = s) : sd_MR σ' (b_step β f s.toInt) := by
  have hf7 := (hG.2.2.2.2.1 f h6)
  obtain ⟨⟨a1, a2⟩, b1, c, d, e, g⟩ := hM
  unfold b_step
  refine ⟨⟨?_, ?_⟩, fun c1 hc => ?_, fun p hp => ?_, fun k hk => ?_, fun f1 hf1 => ?_, fun k hk => ?_⟩
  · rw [h0 76 0 (by omega) (by omega)]; simp only [b_set]; simp; exact a1
  · rw [h0 76 7 (by omega) (by omega)]; simp only [b_set]; simp; exact a2
  · rw [h0 77 _ (by omega) (by omega), h0 78 _ (by omega) (by omega), h0 79 _ (by omega) (by omega), h0 80 _ (by omega) (by omega)]; simp only [b_set]; simp; exact b1 c1 hc
  · rw [h0 81 _ (by omega) (by omega)]; simp only [b_set]; simp; exact c p hp
  · rw [h0 82 _ (by omega) (by omega)]; simp only [b_set]; simp; exact d k hk
  · have := e f1 hf1
    rw [h0 83 f1 (by omega) (by omega), h0 84 f1 (by omega) (by omega), h0 85 f1 (by omega) (by omega)]
    by_cases q : f1 = f
    · subst q
      simp only [b_set]; simp; exact ⟨this.1, this.2.1, this.2.2.1, h1⟩
    · rw [h0 86 f1 (by omega) (by omega)]
      simp only [b_set]; simp [q]; exact this
  · by_cases q : k = 4 * f + (β 7 f).toNat
    · subst q
      rw [h2]
      simp only [b_set]; simp
    · rw [h0 87 k (by omega) (by omega)]
      simp only [b_set]
      rw [if_neg (by omega), if_neg (by omega)]
      exact g k hk
/-- the steps that a way needs between its ends -/
def fz_nd (st : Nat → Int) (k a b : Nat) (s : Int) : Nat := sp_ct (fun j => !decide (j = a) && !decide (j = b) && decide (st j = s)) k
def fz_su (st : Nat → Int) (bar : Int) (k a b : Nat) (bt : Nat → Nat) : Prop := (∀ s : Nat, s < 8 → fz_nd st k a b s ≤ bt s) ∧ ∀ s : Nat, s < 8 → (s : Int) = bar → fz_nd st k a b s = bt s
theorem fz_nd_out {st : Nat → Int} {k a b : Nat} {s : Int} (h : ∀ j, j < k → st j ≠ s) : fz_nd st k a b s = 0 := by
  unfold fz_nd
  have : sp_ct (fun j => !decide (j = a) && !decide (j = b) && decide (st j = s)) k = sp_ct (fun _ => false) k := sp_ct_cong (fun c hc => by rw [decide_eq_false (h c hc), Bool.and_false])
  rw [this]
  clear this h
  induction k with
  | zero => rfl
  | succ k ih => rw [sp_ct, ih]; rfl
theorem fz_cnt_out {xs : Nat → Int} {s : Int} : ∀ n, (∀ i, i ≤ n → xs i ≠ s) → fz_cnt xs s n = 0
  | 0, _ => rfl
  | n + 1, h => by rw [fz_cnt, fz_cnt_out n (fun i hi => h i (by omega)), if_neg (h (n + 1) (Nat.le_refl _))]
theorem fz_pre_bit : ∀ k, k < 5 → ∀ j, j < 4 → (2 ^ k - 1).testBit j = decide (j < k) := by decide
theorem fz_pre_bits (k : Nat) (hk : k < 5) (a : Nat) (ha4 : a < 4) (b : Nat) (hb4 : b < 4) (j : Nat) (hj : j < 4) (ha : a < k) (hb : b < k) (hab : decide (a = b) = false) : (2 ^ k - 1 - 2 ^ b - 2 ^ a).testBit j = (decide (j < k) && !decide (j = a) && !decide (j = b)) := by
  have hm16 := fz_pow_lt k hk
  have hb3 : (2 ^ k - 1).testBit b = true := by rw [fz_pre_bit k hk b hb4]; exact decide_eq_true hb
  have hab2 : a ≠ b := by simpa using hab
  have ha3 : (2 ^ k - 1 - 2 ^ b).testBit a = true := by
    rw [fz_sub_bit hm16 hb4 hb3 ha4, fz_pre_bit k hk a ha4, decide_eq_true ha]; simp [hab2]
  rw [fz_sub_bit (fz_sub_lt hm16 hb4 hb3) ha4 ha3 hj, fz_sub_bit hm16 hb4 hb3 hj, fz_pre_bit k hk j hj]
  cases decide (j < k) <;> cases decide (j = a) <;> cases decide (j = b) <;> rfl
theorem fz_ct_le4 {p : Nat → Bool} : ∀ k n, k ≤ n → sp_ct (fun j => decide (j < k) && p j) n = sp_ct p k
  | k, 0, h => by have : k = 0 := by omega
                  subst this; rfl
  | k, n + 1, h => by
    by_cases e : k = n + 1
    · subst e
      exact sp_ct_cong (fun c hc => by rw [decide_eq_true hc, Bool.true_and])
    · rw [sp_ct, fz_ct_le4 k n (by omega), decide_eq_false (by omega)]; rfl
theorem fz_need_nd {st : Nat → Int} {k a b : Nat} (hk : k < 5) (ha : a < k) (hb : b < k) (hab : a ≠ b) (s : Int) : fz_need st (2 ^ k - 1 - 2 ^ b - 2 ^ a) s = fz_nd st k a b s := by
  unfold fz_need fz_nd
  rw [← fz_ct_le4 k 4 (by omega)]
  apply sp_ct_cong
  intro c hc
  rw [fz_pre_bits k hk a (by omega) b (by omega) c hc ha hb (decide_eq_false hab)]
  cases decide (c < k) <;> simp
/-- the model's answer to isWay is whether the whole set is taken -/
theorem fz_way_U {sz : Nat} {st : Nat → Int} {bar : Int} {xs : Nat → Int} (hsz : sz ≤ 4) {k n : Nat} (hk : 2 ≤ k) (hk2 : k ≤ sz) (hst : ∀ j, j < sz → 0 ≤ st j ∧ st j < 8) (hxs : ∀ i, i ≤ n → 0 ≤ xs i ∧ xs i < 8) : fz_T false sz st bar xs (n + 1) (2 ^ k - 1) = true ↔ ∃ a b, a < k ∧ b < k ∧ a ≠ b ∧ st a = xs 0 ∧ st b = xs (n + 1) ∧ fz_su st bar k a b (fun s => fz_cnt xs s n) := by
  have hm : (2 : Nat) ^ k - 1 < 2 ^ sz := by
    have := Nat.pow_le_pow_right (show 0 < 2 by decide) hk2
    have : 0 < 2 ^ k := Nat.pow_pos (by decide)
    omega
  unfold fz_T
  rw [fz_tk_iff]
  constructor
  · rintro ⟨b, h1, h2, h3, h4, -⟩
    have hb : b < k := by
      rw [fz_pre_bit k (by omega) b (by omega)] at h3
      simpa using h3
    obtain ⟨a, g1, g2, g3, g4⟩ := (fz_U hsz n _ (Nat.lt_of_le_of_lt (Nat.sub_le _ _) hm)).mp h4
    have hm16 := fz_pow_lt k (by omega)
    rw [fz_sub_bit hm16 (by omega) h3 (by omega), fz_pre_bit k (by omega) a (by omega)] at g2
    simp at g2
    refine ⟨a, b, g2.1, hb, g2.2, g3, h2, fun s hs => ?_, fun s hs e => ?_⟩
    · rw [← fz_need_nd (by omega) g2.1 hb g2.2]; exact (g4 s).1
    · rw [← fz_need_nd (by omega) g2.1 hb g2.2]; exact (g4 s).2 e
  · rintro ⟨a, b, h1, h2, h3, h4, h5, h6, h7⟩
    have hm16 := fz_pow_lt k (by omega)
    have hb3 : (2 ^ k - 1).testBit b = true := by rw [fz_pre_bit k (by omega) b (by omega)]; exact decide_eq_true h2
    refine ⟨b, by omega, h5, hb3, (fz_U hsz n _ (Nat.lt_of_le_of_lt (Nat.sub_le _ _) hm)).mpr ⟨a, by omega, ?_, h4, fun s => ?_⟩, Or.inl rfl⟩
    · rw [fz_sub_bit hm16 (by omega) hb3 (by omega), fz_pre_bit k (by omega) a (by omega), decide_eq_true h1]
      simp [h3]
    · rw [fz_need_nd (by omega) h1 h2 h3]
      by_cases hs : 0 ≤ s ∧ s < 8
      · have e : ((s.toNat : Nat) : Int) = s := by omega
        have q1 : fz_nd st k a b ((s.toNat : Nat) : Int) ≤ fz_cnt xs ((s.toNat : Nat) : Int) n := h6 s.toNat (by omega)
        have q2 : ((s.toNat : Nat) : Int) = bar → fz_nd st k a b ((s.toNat : Nat) : Int) = fz_cnt xs ((s.toNat : Nat) : Int) n := h7 s.toNat (by omega)
        rw [e] at q1 q2
        exact ⟨q1, q2⟩
      · have z1 : fz_nd st k a b s = 0 := fz_nd_out (fun j hj q => by have := hst j (by omega); omega)
        have z2 : fz_cnt xs s n = 0 := fz_cnt_out n (fun i hi q => by have := hxs i hi; omega)
        rw [z1, z2]
        exact ⟨Nat.le_refl 0, fun _ => rfl⟩
theorem fz_nd_nst {st : Nat → Int} {k : Nat} (hk : 2 ≤ k) (s : Int) : fz_nd st k 0 (k - 1) s = fz_nst st s (k - 2) := by
  have key : ∀ p, fz_nd st (p + 2) 0 (p + 1) s = fz_nst st s p := by
    intro p
    have h1 : ∀ m c, m < c → sp_ct (fun j => !decide (j = 0) && !decide (j = c) && decide (st j = s)) (m + 1) = fz_nst st s m := by
      intro m
      induction m with
      | zero => intro c _; simp [sp_ct, fz_nst]
      | succ m ih =>
        intro c hc
        rw [sp_ct, ih c (by omega), fz_nst]
        have e1 : decide (m + 1 = 0) = false := by simp
        have e2 : decide (m + 1 = c) = false := decide_eq_false (by omega)
        simp only [e1, e2, Bool.not_false, Bool.true_and, decide_eq_true_eq]
    unfold fz_nd
    rw [sp_ct, h1 p (p + 1) (by omega)]
    simp
  have := key (k - 2)
  rw [show k - 2 + 2 = k by omega, show k - 2 + 1 = k - 1 by omega] at this
  exact this
theorem fz_way_O {sz : Nat} {st : Nat → Int} {bar : Int} {xs : Nat → Int} (hsz : sz ≤ 4) {k n : Nat} (hk : 2 ≤ k) (hk2 : k ≤ sz) (hst : ∀ j, j < sz → 0 ≤ st j ∧ st j < 8) (hxs : ∀ i, i ≤ n → 0 ≤ xs i ∧ xs i < 8) : fz_T true sz st bar xs (n + 1) (2 ^ k - 1) = true ↔ st 0 = xs 0 ∧ st (k - 1) = xs (n + 1) ∧ fz_g st xs (k - 2) n = k - 2 ∧ fz_su st bar k 0 (k - 1) (fun s => fz_cnt xs s n) := by
  unfold fz_T
  rw [fz_tk_pre hsz (by omega) hk2, fz_O hsz n (k - 1) (by omega) (by omega), show k - 1 - 1 = k - 2 by omega, fz_sb_g (M := k - 2) n (k - 2) (Nat.le_refl _)]
  have hg := fz_g_le st xs (k - 2) n
  constructor
  · rintro ⟨h1, h2, h3, h4⟩
    refine ⟨h2, h1, by omega, fun s hs => ?_, fun s hs e => ?_⟩
    · rw [fz_nd_nst hk]
      exact fz_sb_cnt n (k - 2) ((fz_sb_g (M := k - 2) n (k - 2) (Nat.le_refl _)).mpr h3) s
    · show fz_nd st k 0 (k - 1) (s : Int) = fz_cnt xs (s : Int) n
      rw [fz_nd_nst hk, e]; exact h4
  · rintro ⟨h1, h2, h3, h4, h5⟩
    refine ⟨h2, h1, by omega, ?_⟩
    by_cases hs : 0 ≤ bar ∧ bar < 8
    · have e : ((bar.toNat : Nat) : Int) = bar := by omega
      have q2 : fz_nd st k 0 (k - 1) ((bar.toNat : Nat) : Int) = fz_cnt xs ((bar.toNat : Nat) : Int) n := h5 bar.toNat (by omega) e
      rw [fz_nd_nst hk, e] at q2
      exact q2
    · rw [← fz_nd_nst hk, fz_nd_out (fun j hj q => by have := hst j (by omega); omega), fz_cnt_out n (fun i hi q => by have := hxs i hi; omega)]
theorem fz_way_1 {od : Bool} {sz : Nat} {st : Nat → Int} {bar : Int} {xs : Nat → Int} {k : Nat} (hsz : sz ≤ 4) (h1 : 1 ≤ k) (hk : k ≤ sz) : fz_T od sz st bar xs 0 (2 ^ k - 1) = true ↔ k = 1 ∧ st 0 = xs 0 := by
  unfold fz_T
  rw [fz_tk_iff]
  have hm16 := fz_pow_lt k (by omega)
  constructor
  · rintro ⟨s, g1, g2, g3, g4, -⟩
    simp only [fz_S, decide_eq_true_eq] at g4
    have e : k = 1 := by
      rcases Nat.lt_or_ge k 2 with q | q
      · omega
      · exfalso
        rw [fz_pre_bit k (by omega) s (by omega)] at g3
        have hs : s < k := by simpa using g3
        obtain ⟨j, hj, hjs⟩ : ∃ j, j < 2 ∧ j ≠ s := by
          by_cases e : s = 0
          · exact ⟨1, by omega, by omega⟩
          · exact ⟨0, by omega, by omega⟩
        have hb := fz_sub_bit hm16 (by omega : s < 4) (by rw [fz_pre_bit k (by omega) s (by omega)]; exact g3) (by omega : j < 4)
        rw [g4, fz_pre_bit k (by omega) j (by omega), decide_eq_true (by omega : j < k)] at hb
        simp [hjs] at hb
    subst e
    rw [fz_pre_bit 1 (by omega) s (by omega)] at g3
    have hs : s = 0 := by simp at g3; exact g3
    subst hs
    exact ⟨rfl, g2⟩
  · rintro ⟨e, g⟩
    subst e
    exact ⟨0, by omega, g, by decide, by simp [fz_S], by cases od <;> simp⟩
theorem fz_way_k1 {od : Bool} {sz : Nat} {st : Nat → Int} {bar : Int} {xs : Nat → Int} {n : Nat} (hsz : sz ≤ 4) : fz_T od sz st bar xs (n + 1) (2 ^ 1 - 1) = false := by
  rw [← Bool.not_eq_true]
  unfold fz_T
  rw [fz_tk_iff]
  rintro ⟨s, g1, g2, g3, g4, -⟩
  rw [fz_pre_bit 1 (by omega) s (by omega)] at g3
  have hs : s = 0 := by simp at g3; exact g3
  subst hs
  rw [show (2 : Nat) ^ 1 - 1 - 2 ^ 0 = 0 by decide, fz_S_zero] at g4
  cases g4

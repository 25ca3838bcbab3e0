/-! the start, and what a call of the one leaves of the other -/
def b0 : sp_B := fun a b => if a = 5 then (b : Int) else if a = 6 then (if b = 0 then 30 else if b = 2 then -1 else if b = 4 then 1 else 0) else 0
theorem b0_z {a b : Nat} (h5 : a ≠ 5) (h6 : a ≠ 6) : b0 a b = 0 := by unfold b0; rw [if_neg h5, if_neg h6]
theorem b0_5 (p : Nat) : b0 5 p = (p : Int) := by unfold b0; rw [if_pos rfl]
theorem b0_n : sp_n b0 = 0 := by unfold sp_n; rw [b0_z (by decide) (by decide)]; rfl
theorem b0_raw (q : Nat) : sp_raw b0 q = [] := by
  have h := sp_raw_len b0 q
  rw [b0_n] at h
  exact List.length_eq_zero_iff.mp (by omega)
theorem b0_row (q : Nat) : sp_row b0 q = [] := by
  have h := sp_row_len b0 q
  rw [b0_n] at h
  exact List.length_eq_zero_iff.mp (by omega)
theorem b0_RG : sd_RG b0 := by
  refine ⟨?_, fun c hc => ?_, fun p hp => ?_, by decide, fun f hf => ?_, fun k hk => ?_⟩
  · rw [b0_z (a := 0) (b := 0) (by decide) (by decide), b0_z (a := 0) (b := 1) (by decide) (by decide)]; omega
  · rw [b0_z (a := 1) (by decide) (by decide), b0_z (a := 2) (by decide) (by decide), b0_z (a := 3) (by decide) (by decide), b0_z (a := 4) (by decide) (by decide)]; omega
  · rw [b0_5]; omega
  · rw [b0_z (a := 7) (by decide) (by decide), b0_z (a := 8) (by decide) (by decide), b0_z (a := 9) (by decide) (by decide), b0_z (a := 10) (by decide) (by decide)]; omega
  · rw [b0_z (a := 11) (by decide) (by decide)]; omega
theorem z_c1 : ∀ c, c < 120 → (sd_z 2 c).toInt = b0 1 c ∧ (sd_z 3 c).toInt = b0 2 c ∧ (sd_z 4 c).toInt = b0 3 c ∧ (sd_z 5 c).toInt = b0 4 c := by decide +kernel
theorem z_c2 : ∀ p, p < 24 → (sd_z 7 p).toInt = b0 5 p := by decide +kernel
theorem z_c3 : ∀ j, j < 6 → (sd_z 8 j).toInt = b0 6 j := by decide +kernel
theorem z_c4 : ∀ f, f < 6 → (sd_z (64 + f) 1).toInt = b0 7 f ∧ (sd_z (64 + f) 2).toInt = b0 8 f ∧ (sd_z (64 + f) 3).toInt = b0 9 f ∧ (sd_z (64 + f) 4).toInt = b0 10 f := by decide +kernel
theorem z_c5 : ∀ f, f < 6 → ∀ j, j < 4 → (sd_z (70 + f) j).toInt = b0 11 (4 * f + j) := by decide +kernel
theorem z_r : ∀ q, q < 24 → (sd_z (16 + q) 2).toInt = 0 ∧ (sd_z (16 + q) 3).toInt = 0 ∧ (sd_z (16 + q) 4).toInt = 0 ∧ (sd_z (16 + q) 5).toInt = 0 := by decide +kernel
theorem z_m1 : ∀ c, c < 120 → (sd_z 77 c).toInt = b0 1 c ∧ (sd_z 78 c).toInt = b0 2 c ∧ (sd_z 79 c).toInt = b0 3 c ∧ (sd_z 80 c).toInt = b0 4 c := by decide +kernel
theorem z_m2 : ∀ p, p < 24 → (sd_z 81 p).toInt = -1 := by decide +kernel
theorem z_m3 : ∀ j, j < 6 → (sd_z 82 j).toInt = b0 6 j := by decide +kernel
theorem z_m4 : ∀ f, f < 6 → (sd_z 83 f).toInt = b0 8 f ∧ (sd_z 84 f).toInt = b0 9 f ∧ (sd_z 85 f).toInt = b0 10 f ∧ (sd_z 86 f).toInt = b0 7 f := by decide +kernel
theorem z_m5 : ∀ k, k < 24 → (sd_z 87 k).toInt = b0 11 k := by decide +kernel
theorem z_CR : sd_CR sd_z b0 := ⟨⟨by decide +kernel, by decide +kernel⟩, z_c1, z_c2, z_c3, z_c4, fun f j hf hj => z_c5 f hf j hj⟩
theorem z_MR : sd_MR sd_z b0 := ⟨⟨by decide +kernel, by decide +kernel⟩, z_m1, fun p hp => Or.inl ⟨z_m2 p hp, b0_5 p⟩, z_m3, z_m4, z_m5⟩
theorem z_CS : sd_CS sd_z b0 := by
  refine ⟨z_CR, b0_RG, fun i hi => ?_, fun q hq => ?_, fun c hc => ?_⟩
  · rw [b0_n] at hi; exact absurd hi (Nat.not_lt_zero i)
  · obtain ⟨h2, h3, h4, h5⟩ := z_r q hq
    unfold sd_LR
    rw [b0_row, b0_raw, sp_quick_nil]
    refine ⟨⟨h2, fun j hj => absurd hj (Nat.not_lt_zero j)⟩, ?_, h4, h5⟩
    unfold sp_owned
    rw [b0_n]; exact h3
  · rw [b0_n] at hc; exact absurd hc (Nat.not_lt_zero c)
theorem b0_RK : sd_RK b0 := fun c _ _ => b0_z (by decide) (by decide)
theorem sd_MR_hi {σ τ : sd_Mem} {β : sp_B} (h : sd_hi σ τ) (hM : sd_MR σ β) : sd_MR τ β := by
  obtain ⟨⟨a1, a2⟩, b, c, d, e, f⟩ := hM
  refine ⟨⟨?_, ?_⟩, fun c1 hc => ?_, fun p hp => ?_, fun j hj => ?_, fun f1 hf => ?_, fun k hk => ?_⟩
  · rw [h 76 0 (by omega)]; exact a1
  · rw [h 76 7 (by omega)]; exact a2
  · rw [h 77 _ (by omega), h 78 _ (by omega), h 79 _ (by omega), h 80 _ (by omega)]; exact b c1 hc
  · rw [h 81 _ (by omega)]; exact c p hp
  · rw [h 82 _ (by omega)]; exact d j hj
  · rw [h 83 _ (by omega), h 84 _ (by omega), h 85 _ (by omega), h 86 _ (by omega)]; exact e f1 hf
  · rw [h 87 _ (by omega)]; exact f k hk
theorem sd_CS_lo {σ τ : sd_Mem} {β : sp_B} (h : sd_lo σ τ) (hS : sd_CS σ β) : sd_CS τ β := by
  obtain ⟨⟨⟨a1, a2⟩, b, c, d, e, f⟩, hG, hB, hL1, hL2⟩ := hS
  refine ⟨⟨⟨?_, ?_⟩, fun c1 hc => ?_, fun p hp => ?_, fun j hj => ?_, fun f1 hf => ?_, fun f1 j hf hj => ?_⟩, hG, fun i hi => ?_, fun q hq => ?_, fun c hc => ?_⟩
  · rw [h 1 5 (by omega)]; exact a1
  · rw [h 0 7 (by omega)]; exact a2
  · rw [h 2 _ (by omega), h 3 _ (by omega), h 4 _ (by omega), h 5 _ (by omega)]; exact b c1 hc
  · rw [h 7 _ (by omega)]; exact c p hp
  · rw [h 8 _ (by omega)]; exact d j hj
  · rw [h (64 + f1) 1 (by omega), h (64 + f1) 2 (by omega), h (64 + f1) 3 (by omega), h (64 + f1) 4 (by omega)]; exact e f1 hf
  · rw [h (70 + f1) _ (by omega)]; exact f f1 j hf hj
  · rw [h 6 _ (by omega)]; exact hB i hi
  · obtain ⟨a, b, c, d⟩ := hL1 q hq
    refine ⟨sd_RV_cong a (h _ _ (by omega)) (fun k => h _ _ (by omega)), ?_, ?_, ?_⟩
    · rw [h _ _ (by omega)]; exact b
    · rw [h _ _ (by omega)]; exact c
    · rw [h _ _ (by omega)]; exact d
  · obtain ⟨a, b⟩ := hL2 c hc
    refine ⟨?_, ?_⟩
    · rw [h _ _ (by omega)]; exact a
    · rw [h _ _ (by omega)]; exact b
theorem sd_RK_same {β β' : sp_B} (h : sd_RK β) (h0 : β' 0 0 = β 0 0) (h4 : ∀ c, β' 4 c = β 4 c) : sd_RK β' := fun c hc h1 => by
  have e : sp_n β' = sp_n β := by unfold sp_n; rw [h0]
  rw [h4]; exact h c (by omega) h1
theorem up_click_RK {β : sp_B} (h : sd_RK β) (t w s : Int) : sd_RK (up_click β t w s) := by
  unfold up_click
  split
  · exact h
  · intro c hc h1
    have e : sp_n (b_click β t w s) = (β 0 0 + 1).toNat := by unfold sp_n b_click b_set; simp
    have e4 : (b_click β t w s) 4 c = β 4 c := by unfold b_click b_set; simp
    rw [e4]
    refine h c ?_ h1
    rw [e] at hc
    unfold sp_n
    omega
theorem up_strike_RK {β : sp_B} (h : sd_RK β) (c on : Int) : sd_RK (up_strike β c on) := by
  unfold up_strike
  split
  · exact h
  · rename_i g
    intro c1 hc h1
    have e : sp_n (b_set β 4 c.toNat on) = sp_n β := by unfold sp_n b_set; simp
    rw [e] at hc
    have e4 : (b_set β 4 c.toNat on) 4 c1 = β 4 c1 := by
      unfold b_set
      rw [if_neg (by unfold sp_n at hc; omega)]
    rw [e4]; exact h c1 hc h1
theorem up_join_RK {β : sp_B} (h : sd_RK β) (m nm : Int) : sd_RK (up_join β m nm) := by
  unfold up_join
  split
  · exact h
  · exact sd_RK_same h (by unfold b_set; simp) (fun c => by unfold b_set; simp)
theorem up_rule_RK {β : sp_B} (h : sd_RK β) (w v : Int) : sd_RK (up_rule β w v) := by
  unfold up_rule
  split
  · exact h
  · exact sd_RK_same h (by unfold b_set; simp) (fun c => by unfold b_set; simp)
theorem up_funnel_RK {β : sp_B} (h : sd_RK β) (o w b : Int) : sd_RK (up_funnel β o w b) := by
  unfold up_funnel
  split
  · exact h
  · exact sd_RK_same h (by unfold b_funnel b_set; simp) (fun c => by unfold b_funnel b_set; simp)
theorem up_step_RK {β : sp_B} (h : sd_RK β) (f s : Int) : sd_RK (up_step β f s) := by
  unfold up_step
  split
  · exact h
  · exact sd_RK_same h (by unfold b_step b_set; simp) (fun c => by unfold b_step b_set; simp)

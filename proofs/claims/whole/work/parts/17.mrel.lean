def sd_MW (σ : sd_Mem) (β : sp_B) (l : List Nat) : Prop := sd_MR σ β ∧ sd_RG β ∧ (σ 76 15).toInt = (l.length : Int) ∧ (∀ j, j < l.length → (σ 88 j).toInt = ((l.getD j 0 : Nat) : Int)) ∧ l.length ≤ 120 ∧ ∀ j, j < l.length → l.getD j 0 < 120
theorem sd_MW.at {σ : sd_Mem} {β : sp_B} {l : List Nat} (h : sd_MW σ β l) {j : Nat} (hj : j < l.length) : (σ 88 j).toInt.toNat = l.getD j 0 ∧ l.getD j 0 < 120 ∧ 0 ≤ (σ 88 j).toInt ∧ (σ 88 j).toInt < 120 ∧ (σ 77 (l.getD j 0)).toInt = β 1 (l.getD j 0) ∧ (σ 79 (l.getD j 0)).toInt = β 3 (l.getD j 0) ∧ 0 ≤ β 1 (l.getD j 0) ∧ β 1 (l.getD j 0) ≤ 200000 ∧ 0 ≤ β 3 (l.getD j 0) ∧ β 3 (l.getD j 0) < 8 := by
  obtain ⟨hC, hG, hZ, hV, hL, hB⟩ := h
  have h1 := hV j hj
  have h2 := hB j hj
  have h3 := hC.2.1 _ h2
  have h4 := hG.2.1 _ h2
  refine ⟨by omega, h2, by omega, by omega, h3.1, h3.2.2.1, h4.1, h4.2.1, h4.2.2.2.2.1, h4.2.2.2.2.2.1⟩
def sd_keep (σ σ' : sd_Mem) : Prop := ∀ i k, i < 88 → (i = 76 → k = 0 ∨ k = 7) → σ' i k = σ i k
theorem sd_MR_fr {σ τ : sd_Mem} {β : sp_B} (h : sd_keep σ τ) (hM : sd_MR σ β) : sd_MR τ β := by
  obtain ⟨⟨a1, a2⟩, b, c, d, e, f⟩ := hM
  refine ⟨⟨?_, ?_⟩, fun c1 hc => ?_, fun p hp => ?_, fun j hj => ?_, fun f1 hf => ?_, fun k hk => ?_⟩
  · rw [h 76 0 (by omega) (by omega)]; exact a1
  · rw [h 76 7 (by omega) (by omega)]; exact a2
  · rw [h 77 _ (by omega) (by omega), h 78 _ (by omega) (by omega), h 79 _ (by omega) (by omega), h 80 _ (by omega) (by omega)]; exact b c1 hc
  · rw [h 81 _ (by omega) (by omega)]; exact c p hp
  · rw [h 82 _ (by omega) (by omega)]; exact d j hj
  · rw [h 83 _ (by omega) (by omega), h 84 _ (by omega) (by omega), h 85 _ (by omega) (by omega), h 86 _ (by omega) (by omega)]; exact e f1 hf
  · rw [h 87 _ (by omega) (by omega)]; exact f k hk
def sd_GA (σ : sd_Mem) (β : sp_B) (p : Nat) : Prop := (σ 76 15).toInt = ((sp_row β p).length : Int) ∧ (∀ j, j < (sp_row β p).length → (σ 88 j).toInt = (((sp_row β p).getD j 0 : Nat) : Int)) ∧ (σ 76 16).toInt = (sp_ns β (sp_row β p) (sp_row β p).length : Int) ∧ (σ 76 17).toInt = (if sp_quick β (sp_raw β p) then 1 else 0) ∧ ∀ j, j < (sp_row β p).length → (σ 89 j).toInt = (sp_ns β (sp_row β p) (j + 1) : Int) - 1
theorem sd_GA.mw {σ : sd_Mem} {β : sp_B} {p : Nat} (h : sd_GA σ β p) (hM : sd_MR σ β) (hG : sd_RG β) : sd_MW σ β (sp_row β p) := ⟨hM, hG, h.1, h.2.1, sp_row_ok hG p⟩
-- gather, its three loops
def sd_g1 (σ : sd_Mem) (β : sp_B) (p : Nat) (τ : sd_Mem) (c : Nat) : Prop := (∀ i k, i ≠ 88 → ¬ (i = 76 ∧ k = 15) → τ i k = σ i k) ∧ (τ 76 15).toInt = ((sp_gr (β 1) (sp_cnts β p) c).length : Int) ∧ ∀ j, j < (sp_gr (β 1) (sp_cnts β p) c).length → (τ 88 j).toInt = (((sp_gr (β 1) (sp_cnts β p) c).getD j 0 : Nat) : Int)
theorem sp_gr_len (t : Nat → Int) (p : Nat → Bool) (c : Nat) : (sp_gr t p c).length ≤ c := by rw [sp_gr_eq, sp_srt_ct]; exact sp_ct_le _
theorem sp_gr_mem {t : Nat → Int} {p : Nat → Bool} {c d : Nat} (h : d ∈ sp_gr t p c) : d < c := by
  rw [sp_gr_eq] at h
  exact sp_srt_mem.mp (List.mem_filter.mp h).1
theorem sp_gr_sorted (t : Nat → Int) (p : Nat → Bool) (c : Nat) : (sp_gr t p c).Pairwise (fun a b => t a ≤ t b) := by rw [sp_gr_eq]; exact (sp_srt_sorted c).filter _
theorem sd_g1_0 {σ τ : sd_Mem} {β : sp_B} {p : Nat} {z : Int32} (e : τ = sd_st σ 76 15 z) (hz : z.toInt = 0) : sd_g1 σ β p τ 0 := by
  refine ⟨fun i k h1 h2 => ?_, ?_, fun j hj => absurd hj (Nat.not_lt_zero j)⟩
  · rw [e]
    by_cases h3 : i = 76
    · subst h3; rw [sd_st_nk (fun h4 => h2 ⟨rfl, h4⟩)]
    · rw [sd_st_ne h3]
  · rw [e, sd_st_at]; exact hz
theorem sd_g1_skip {σ τ : sd_Mem} {β : sp_B} {p c : Nat} (h : sd_g1 σ β p τ c) (hc : sp_cnts β p c = false) : sd_g1 σ β p τ (c + 1) := by
  unfold sd_g1 at h ⊢
  rw [show sp_gr (β 1) (sp_cnts β p) (c + 1) = sp_gr (β 1) (sp_cnts β p) c by rw [sp_gr, hc]; rfl]
  exact h
theorem sd_g1_ins {σ τ υ υ1 υ2 : sd_Mem} {β : sp_B} {p c a m : Nat} {x z : Int32} (h : sd_g1 σ β p τ c) (hc : sp_cnts β p c = true) (hm : m = (sp_gr (β 1) (sp_cnts β p) c).length) (ha : a ≤ m)
    (f1 : ∀ i k, i ≠ 88 → υ i k = τ i k) (f2 : ∀ j, j < a → υ 88 j = τ 88 j) (f3 : ∀ j, a < j → j ≤ m → υ 88 j = τ 88 (j - 1)) (f4 : ∀ j, a ≤ j → j < m → β 1 c < β 1 ((sp_gr (β 1) (sp_cnts β p) c).getD j 0)) (f5 : a = 0 ∨ β 1 ((sp_gr (β 1) (sp_cnts β p) c).getD (a - 1) 0) ≤ β 1 c)
    (e1 : υ1 = sd_st υ 88 a x) (hx : x.toInt = (c : Int)) (e2 : υ2 = sd_st υ1 76 15 z) (hz : z.toInt = (m : Int) + 1) : sd_g1 σ β p υ2 (c + 1) := by
  obtain ⟨h1, h2, h3⟩ := h
  have e : sp_gr (β 1) (sp_cnts β p) (c + 1) = (sp_gr (β 1) (sp_cnts β p) c).take a ++ c :: (sp_gr (β 1) (sp_cnts β p) c).drop a := by
    rw [sp_gr, if_pos hc]
    exact sp_ins_at (sp_gr_sorted _ _ _) (by omega) (fun j q1 q2 => f4 j q1 (by omega)) f5
  have el : (sp_gr (β 1) (sp_cnts β p) (c + 1)).length = m + 1 := by rw [sp_gr, if_pos hc, sp_ins_len, hm]
  refine ⟨fun i k q1 q2 => ?_, ?_, fun j hj => ?_⟩
  · rw [e2]
    by_cases q3 : i = 76
    · subst q3
      rw [sd_st_nk (fun q => q2 ⟨rfl, q⟩), e1, sd_st_ne q1, f1 _ _ q1]; exact h1 _ k q1 q2
    · rw [sd_st_ne q3, e1, sd_st_ne q1, f1 _ _ q1]; exact h1 i k q1 q2
  · rw [e2, sd_st_at, el, hz]; omega
  · rw [el] at hj
    rw [e, sp_insD (by omega), e2, sd_st_ne (by decide), e1]
    by_cases q1 : j < a
    · rw [if_pos q1, sd_st_nk (by omega), f2 j q1]; exact h3 j (by omega)
    · rw [if_neg q1]
      by_cases q2 : j = a
      · rw [if_pos q2, q2, sd_st_at]; exact hx
      · rw [if_neg q2, sd_st_nk q2, f3 j (by omega) (by omega)]; exact h3 (j - 1) (by omega)
theorem sd_g1_keep {σ τ : sd_Mem} {β : sp_B} {p c : Nat} (h : sd_g1 σ β p τ c) : sd_keep σ τ := fun i k h1 h2 => h.1 i k (by omega) (by omega)
def sd_g2 (σ : sd_Mem) (β : sp_B) (p : Nat) (τ : sd_Mem) (i rt : Nat) : Prop := (∀ a k, a ≠ 88 → ¬ (a = 76 ∧ (k = 15 ∨ k = 17)) → τ a k = σ a k) ∧ (τ 76 15).toInt = ((sp_raw β p).length : Int) ∧ (∀ j, j < (sp_raw β p).length → (τ 88 j).toInt = (((sp_raw β p).getD j 0 : Nat) : Int)) ∧ (((τ 76 17).toInt = 1 ∧ sp_quick β (sp_raw β p) = true) ∨ ((τ 76 17).toInt = 0 ∧ ∀ i', i' < i → i' + rt < (sp_raw β p).length → ¬ (β 1 ((sp_raw β p).getD (i' + rt) 0) - β 1 ((sp_raw β p).getD i' 0) < β 6 4)))
theorem sp_gr_raw (β : sp_B) (p : Nat) : sp_gr (β 1) (sp_cnts β p) (sp_n β) = sp_raw β p := sp_gr_eq _ _
theorem sd_g2_0 {σ τ τ' : sd_Mem} {β : sp_B} {p rt : Nat} {z : Int32} (h : sd_g1 σ β p τ (sp_n β)) (e : τ' = sd_st τ 76 17 z) (hz : z.toInt = 0) : sd_g2 σ β p τ' 0 rt := by
  obtain ⟨h1, h2, h3⟩ := h
  rw [sp_gr_raw] at h2 h3
  refine ⟨fun a k q1 q2 => ?_, ?_, fun j hj => ?_, Or.inr ⟨?_, fun i' q => by omega⟩⟩
  · rw [e]
    by_cases q3 : a = 76
    · subst q3; rw [sd_st_nk (by omega)]; exact h1 _ k q1 (by omega)
    · rw [sd_st_ne q3]; exact h1 a k q1 (by omega)
  · rw [e, sd_st_nk (by decide)]; exact h2
  · rw [e, sd_st_ne (by decide)]; exact h3 j hj
  · rw [e, sd_st_at]; exact hz
theorem sd_g2_step {σ τ τ' : sd_Mem} {β : sp_B} {p rt i : Nat} {z : Int32} (h : sd_g2 σ β p τ i rt) (e : τ' = sd_st τ 76 17 z) (hz : (z.toInt = 1 ∧ sp_quick β (sp_raw β p) = true) ∨ (z.toInt = 0 ∧ (τ 76 17).toInt = 0 ∧ ¬ (β 1 ((sp_raw β p).getD (i + rt) 0) - β 1 ((sp_raw β p).getD i 0) < β 6 4))) : sd_g2 σ β p τ' (i + 1) rt := by
  obtain ⟨h1, h2, h3, h4⟩ := h
  refine ⟨fun a k q1 q2 => ?_, ?_, fun j hj => ?_, ?_⟩
  · rw [e]
    by_cases q3 : a = 76
    · subst q3; rw [sd_st_nk (by omega)]; exact h1 _ k q1 (by omega)
    · rw [sd_st_ne q3]; exact h1 a k q1 (by omega)
  · rw [e, sd_st_nk (by decide)]; exact h2
  · rw [e, sd_st_ne (by decide)]; exact h3 j hj
  · rw [e, sd_st_at]
    rcases hz with q | ⟨q1, q2, q3⟩
    · exact Or.inl q
    · right
      refine ⟨q1, fun i' h9 h8 => ?_⟩
      rcases h4 with ⟨q4, -⟩ | ⟨-, q4⟩
      · omega
      · by_cases e9 : i' = i
        · rw [e9]; exact q3
        · exact q4 i' (by omega) h8
def sd_g3 (σ : sd_Mem) (β : sp_B) (p : Nat) (τ : sd_Mem) (j : Nat) : Prop := (∀ a k, a ≠ 88 → a ≠ 89 → ¬ (a = 76 ∧ (k = 15 ∨ k = 16 ∨ k = 17)) → τ a k = σ a k) ∧ (τ 76 15).toInt = ((sp_row β p).length : Int) ∧ (∀ i, i < (sp_row β p).length → (τ 88 i).toInt = (((sp_row β p).getD i 0 : Nat) : Int)) ∧ (τ 76 17).toInt = (if sp_quick β (sp_raw β p) then 1 else 0) ∧ (τ 76 16).toInt = (sp_ns β (sp_row β p) j : Int) ∧ ∀ i, i < j → (τ 89 i).toInt = (sp_ns β (sp_row β p) (i + 1) : Int) - 1
theorem sd_g3_0 {σ τ τ1 τ2 : sd_Mem} {β : sp_B} {p rt i : Nat} {x z : Int32} (hrt : β 6 3 = (rt : Int)) (h : sd_g2 σ β p τ i rt) (hend : rt = 0 ∨ (sp_raw β p).length ≤ i + rt) (e1 : τ1 = sd_st τ 76 15 x) (hx : (x.toInt = 0 ∧ (τ 76 17).toInt ≠ 0) ∨ (x = τ 76 15 ∧ (τ 76 17).toInt = 0)) (e2 : τ2 = sd_st τ1 76 16 z) (hz : z.toInt = 0) : sd_g3 σ β p τ2 0 := by
  obtain ⟨h1, h2, h3, h4⟩ := h
  have hq : ((τ 76 17).toInt = 1 ∧ sp_quick β (sp_raw β p) = true) ∨ ((τ 76 17).toInt = 0 ∧ sp_quick β (sp_raw β p) = false) := by
    rcases h4 with q | ⟨q1, q2⟩
    · exact Or.inl q
    · refine Or.inr ⟨q1, ?_⟩
      rcases hend with q3 | q3
      · exact sp_quick_zero (by omega)
      · exact sp_quick_false hrt (fun i' q4 => q2 i' (by omega) q4)
  refine ⟨fun a k q1 q2 q3 => ?_, ?_, fun j hj => ?_, ?_, ?_, fun j hj => by omega⟩
  · rw [e2]
    by_cases q4 : a = 76
    · subst q4; rw [sd_st_nk (by omega), e1, sd_st_nk (by omega)]; exact h1 _ k q1 (by omega)
    · rw [sd_st_ne q4, e1, sd_st_ne q4]; exact h1 a k q1 (by omega)
  · rw [e2, sd_st_nk (by decide), e1, sd_st_at]
    unfold sp_row
    rcases hq with ⟨q1, q2⟩ | ⟨q1, q2⟩
    · rw [if_pos q2]
      rcases hx with ⟨q3, -⟩ | ⟨-, q3⟩
      · simpa using q3
      · omega
    · rw [q2]
      simp only [Bool.false_eq_true, if_false]
      rcases hx with ⟨-, q3⟩ | ⟨q3, -⟩
      · omega
      · rw [q3]; exact h2
  · rw [e2, sd_st_ne (by decide), e1, sd_st_ne (by decide)]
    unfold sp_row at hj ⊢
    split at hj
    · simp at hj
    · rename_i q
      rw [if_neg q]; exact h3 j hj
  · rw [e2, sd_st_nk (by decide), e1, sd_st_nk (by decide)]
    rcases hq with ⟨q1, q2⟩ | ⟨q1, q2⟩
    · rw [if_pos q2]; exact q1
    · rw [q2]; exact q1
  · rw [e2, sd_st_at, hz]; rfl
theorem sd_g3_step {σ τ τ1 τ2 : sd_Mem} {β : sp_B} {p j : Nat} {x z : Int32} (h : sd_g3 σ β p τ j) (e1 : τ1 = sd_st τ 76 16 x) (hx : x.toInt = (sp_ns β (sp_row β p) (j + 1) : Int)) (e2 : τ2 = sd_st τ1 89 j z) (hz : z.toInt = (sp_ns β (sp_row β p) (j + 1) : Int) - 1) : sd_g3 σ β p τ2 (j + 1) := by
  obtain ⟨h1, h2, h3, h4, h5, h6⟩ := h
  refine ⟨fun a k q1 q2 q3 => ?_, ?_, fun i hi => ?_, ?_, ?_, fun i hi => ?_⟩
  · rw [e2, sd_st_ne q2, e1]
    by_cases q4 : a = 76
    · subst q4; rw [sd_st_nk (by omega)]; exact h1 _ k q1 q2 q3
    · rw [sd_st_ne q4]; exact h1 a k q1 q2 q3
  · rw [e2, sd_st_ne (by decide), e1, sd_st_nk (by decide)]; exact h2
  · rw [e2, sd_st_ne (by decide), e1, sd_st_ne (by decide)]; exact h3 i hi
  · rw [e2, sd_st_ne (by decide), e1, sd_st_nk (by decide)]; exact h4
  · rw [e2, sd_st_ne (by decide), e1, sd_st_at]; exact hx
  · by_cases q : i = j
    · rw [e2, q, sd_st_at]; exact hz
    · rw [e2, sd_st_nk q, e1, sd_st_ne (by decide)]; exact h6 i (by omega)
theorem sd_g3_keep {σ τ : sd_Mem} {β : sp_B} {p c : Nat} (h : sd_g3 σ β p τ c) : sd_keep σ τ := fun i k h1 h2 => h.1 i k (by omega) (by omega) (by omega)
theorem sd_g2_keep {σ τ : sd_Mem} {β : sp_B} {p c rt : Nat} (h : sd_g2 σ β p τ c rt) : sd_keep σ τ := fun i k h1 h2 => h.1 i k (by omega) (by omega)
theorem sd_g3_end {σ τ : sd_Mem} {β : sp_B} {p : Nat} (h : sd_g3 σ β p τ (sp_row β p).length) : sd_GA τ β p ∧ ∀ a k, a ≠ 88 → a ≠ 89 → ¬ (a = 76 ∧ (k = 15 ∨ k = 16 ∨ k = 17)) → τ a k = σ a k := ⟨⟨h.2.1, h.2.2.1, h.2.2.2.2.1, h.2.2.2.1, h.2.2.2.2.2⟩, h.1⟩

theorem sp_cut_t {β : sp_B} {a b : Nat} (h : β 1 b - β 1 a > β 6 0 ∨ (β 6 1 = 1 ∧ β 1 a / 1440 ≠ β 1 b / 1440) ∨ β 3 a = β 6 2) : sp_cut β a b = true := by
  unfold sp_cut
  simp only [Bool.or_eq_true, Bool.and_eq_true, decide_eq_true_eq]
  rcases h with h | h | h
  · exact Or.inl (Or.inl h)
  · exact Or.inl (Or.inr h)
  · exact Or.inr h
theorem sp_cut_f {β : sp_B} {a b : Nat} (h : ¬ (β 1 b - β 1 a > β 6 0 ∨ (β 6 1 = 1 ∧ β 1 a / 1440 ≠ β 1 b / 1440) ∨ β 3 a = β 6 2)) : sp_cut β a b = false := by
  rw [← Bool.not_eq_true]
  intro q
  unfold sp_cut at q
  simp only [Bool.or_eq_true, Bool.and_eq_true, decide_eq_true_eq] at q
  rcases q with (q | q) | q
  · exact h (Or.inl q)
  · exact h (Or.inr (Or.inl q))
  · exact h (Or.inr (Or.inr q))
theorem sp_ns_s {β : sp_B} {l : List Nat} {j : Nat} (h : j = 0 ∨ sp_cut β (l.getD (j - 1) 0) (l.getD j 0) = true) : sp_ns β l (j + 1) = sp_ns β l j + 1 := by
  rw [sp_ns, if_pos]
  rcases h with h | h
  · simp [h]
  · rw [h]; simp
theorem sp_ns_k {β : sp_B} {l : List Nat} {j : Nat} (h0 : j ≠ 0) (h : sp_cut β (l.getD (j - 1) 0) (l.getD j 0) = false) : sp_ns β l (j + 1) = sp_ns β l j := by
  rw [sp_ns, if_neg]
  · rfl
  · rw [h]; simp [h0]
def sd_lay (i : Nat) : Prop := i = 10 ∨ i = 11 ∨ (16 ≤ i ∧ i < 64)
theorem sd_CR_fr {σ τ : sd_Mem} {β : sp_B} (h : ∀ a k, ¬ sd_lay a → τ a k = σ a k) (hC : sd_CR σ β) : sd_CR τ β := by
  obtain ⟨⟨a1, a2⟩, b, c, d, e, f⟩ := hC
  refine ⟨⟨?_, ?_⟩, fun c1 hc => ?_, fun p hp => ?_, fun j hj => ?_, fun f1 hf => ?_, fun f1 j hf hj => ?_⟩
  · rw [h 1 5 (by unfold sd_lay; omega)]; exact a1
  · rw [h 0 7 (by unfold sd_lay; omega)]; exact a2
  · rw [h 2 _ (by unfold sd_lay; omega), h 3 _ (by unfold sd_lay; omega), h 4 _ (by unfold sd_lay; omega), h 5 _ (by unfold sd_lay; omega)]; exact b c1 hc
  · rw [h 7 _ (by unfold sd_lay; omega)]; exact c p hp
  · rw [h 8 _ (by unfold sd_lay; omega)]; exact d j hj
  · rw [h (64 + f1) _ (by unfold sd_lay; omega), h (64 + f1) _ (by unfold sd_lay; omega), h (64 + f1) _ (by unfold sd_lay; omega), h (64 + f1) _ (by unfold sd_lay; omega)]; exact e f1 hf
  · rw [h (70 + f1) _ (by unfold sd_lay; omega)]; exact f f1 j hf hj
theorem sd_RV_cong {σ τ : sd_Mem} {q : Nat} {l : List Nat} (h : sd_RV σ q l) (h1 : τ (16 + q) 2 = σ (16 + q) 2) (h2 : ∀ k, τ (40 + q) k = σ (40 + q) k) : sd_RV τ q l := ⟨by rw [h1]; exact h.1, fun j hj => by rw [h2]; exact h.2 j hj⟩
theorem sd_RV_app {σ τ : sd_Mem} {q c : Nat} {l : List Nat} (h : sd_RV σ q l) (h1 : (τ (16 + q) 2).toInt = (l.length : Int) + 1) (h2 : (τ (40 + q) l.length).toInt = (c : Int)) (h3 : ∀ k, k ≠ l.length → τ (40 + q) k = σ (40 + q) k) : sd_RV τ q (l ++ [c]) := by
  refine ⟨by rw [h1, List.length_append]; simp, fun j hj => ?_⟩
  rw [List.length_append] at hj
  simp at hj
  by_cases e : j = l.length
  · subst e
    rw [h2]
    simp
  · rw [h3 j e, h.2 j (by omega)]
    congr 1
    simp only [List.getD_eq_getElem?_getD]
    rw [List.getElem?_append_left (by omega)]
theorem sp_take_f {S : List Nat} {i : Nat} (h : i < S.length) (p : Nat → Bool) : (S.take (i + 1)).filter p = (S.take i).filter p ++ (if p (S.getD i 0) then [S.getD i 0] else []) := by
  have e : S.getD i 0 = S[i] := by rw [List.getD_eq_getElem?_getD, List.getElem?_eq_getElem h]; rfl
  rw [e, List.take_succ, List.getElem?_eq_getElem h, List.filter_append]
  congr 1
  by_cases hp : p S[i] = true
  · simp [hp]
  · simp [hp]
def sd_l1 (σ τ : sd_Mem) (p : Nat) : Prop := (∀ a k, ¬ sd_lay a → τ a k = σ a k) ∧ ∀ q, q < p → (τ (16 + q) 2).toInt = 0 ∧ (τ (16 + q) 3).toInt = 0
def sd_l2 (σ : sd_Mem) (β : sp_B) (τ : sd_Mem) (i : Nat) : Prop := (∀ a k, ¬ sd_lay a → τ a k = σ a k) ∧ (∀ q, q < 24 → sd_RV τ q (((sp_srt (β 1) (sp_n β)).take i).filter (sp_cnts β q)) ∧ (τ (16 + q) 3).toInt = ((((sp_srt (β 1) (sp_n β)).take i).filter (sp_mine β q)).length : Int)) ∧ ∀ j, j < i → (τ 10 ((sp_srt (β 1) (sp_n β)).getD j 0)).toInt = -1 ∧ (τ 11 ((sp_srt (β 1) (sp_n β)).getD j 0)).toInt = -1
def sd_l3 (σ : sd_Mem) (β : sp_B) (τ : sd_Mem) (p : Nat) : Prop := (∀ a k, ¬ sd_lay a → τ a k = σ a k) ∧ (∀ q, q < p → q < 24 → sd_LR τ β q) ∧ (∀ q, p ≤ q → q < 24 → sd_RV τ q (sp_raw β q) ∧ (τ (16 + q) 3).toInt = (sp_owned β q : Int)) ∧ (∀ c, c < sp_n β → sp_per β c < p → sd_LP τ β c) ∧ (∀ c, c < sp_n β → p ≤ sp_per β c → (τ 10 c).toInt = -1 ∧ (τ 11 c).toInt = -1)
theorem sd_l1_step {σ τ τ' : sd_Mem} {p : Nat} (hp : p < 24) (h : sd_l1 σ τ p) (h1 : ∀ i k, i ≠ 16 + p → τ' i k = τ i k) (h2 : (τ' (16 + p) 2).toInt = 0) (h3 : (τ' (16 + p) 3).toInt = 0) : sd_l1 σ τ' (p + 1) := by
  refine ⟨fun a k ha => ?_, fun q hq => ?_⟩
  · rw [h1 a k (fun e => ha (by unfold sd_lay; omega))]; exact h.1 a k ha
  · by_cases e : q = p
    · subst e; exact ⟨h2, h3⟩
    · rw [h1 _ _ (by omega), h1 _ _ (by omega)]; exact h.2 q (by omega)
theorem sd_l2_0 {σ τ : sd_Mem} {β : sp_B} (h : sd_l1 σ τ 24) : sd_l2 σ β τ 0 := by
  refine ⟨h.1, fun q hq => ⟨⟨?_, fun j hj => ?_⟩, ?_⟩, fun j hj => by omega⟩
  · simpa using (h.2 q hq).1
  · simp at hj
  · simpa using (h.2 q hq).2
theorem sp_mine_per {β : sp_B} (hG : sd_RG β) {c q : Nat} (hc : c < 120) : sp_mine β q c = decide (q = sp_per β c) := by
  have h1 := hG.2.1 c hc
  have h2 := hG.2.2.1 (β 2 c).toNat (by omega)
  unfold sp_mine sp_per
  congr 1
  apply propext
  omega
theorem sp_per_lt {β : sp_B} (hG : sd_RG β) {c : Nat} (hc : c < 120) : sp_per β c < 24 := by
  have h1 := hG.2.1 c hc
  have h2 := hG.2.2.1 (β 2 c).toNat (by omega)
  unfold sp_per
  omega
theorem sd_l2_step {σ τ τ1 τ2 τ' : sd_Mem} {β : sp_B} {i c : Nat} {m1 m2 : Int32} (hG : sd_RG β) (hC : sd_CR σ β) (hi : i < sp_n β) (hc : c = (sp_srt (β 1) (sp_n β)).getD i 0) (hm1 : m1.toInt = -1) (hm2 : m2.toInt = -1) (e1 : τ1 = sd_st τ 10 c m1) (e2 : τ2 = sd_st τ1 11 c m2) (h : sd_l2 σ β τ i) {n w : Nat}
    (hn : (τ2 (16 + sp_per β c) 2).toInt = (n : Int)) (hw : (τ2 (16 + sp_per β c) 3).toInt = (w : Int))
    (t1 : ∀ a k, a ≠ 16 + sp_per β c → a ≠ 40 + sp_per β c → τ' a k = τ2 a k) (t2 : (τ' (16 + sp_per β c) 3).toInt = (w : Int) + 1) (t3 : (((τ2 5 c).toInt = 0 ∧ n < 120 ∧ (τ' (16 + sp_per β c) 2).toInt = (n : Int) + 1 ∧ (τ' (40 + sp_per β c) n).toInt = (c : Int) ∧ ∀ k, k ≠ n → τ' (40 + sp_per β c) k = τ2 (40 + sp_per β c) k) ∨ (((τ2 5 c).toInt ≠ 0 ∨ n = 120) ∧ (τ' (16 + sp_per β c) 2).toInt = (n : Int) ∧ ∀ k, τ' (40 + sp_per β c) k = τ2 (40 + sp_per β c) k))) : sd_l2 σ β τ' (i + 1) := by
  obtain ⟨h1, h2, h3⟩ := h
  have hlen := sp_srt_len (t := β 1) (sp_n β)
  have hN := (sp_n_le hG).1
  have hcn : c < sp_n β := by rw [hc]; exact sp_srt_mem.mp (sp_getD_mem (by omega))
  have hq0 := sp_per_lt hG (c := c) (by omega)
  have hfr : ∀ a k, a ≠ 10 → a ≠ 11 → τ2 a k = τ a k := fun a k q1 q2 => by rw [e2, sd_st_ne q2, e1, sd_st_ne q1]
  have hsk : (τ2 5 c).toInt = β 4 c := by
    rw [hfr 5 c (by decide) (by decide), h1 5 c (by unfold sd_lay; omega)]
    exact (hC.2.1 c (by omega)).2.2.2
  refine ⟨fun a k ha => ?_, fun q hq => ?_, fun j hj => ?_⟩
  · rw [t1 a k (fun e => ha (by unfold sd_lay; omega)) (fun e => ha (by unfold sd_lay; omega)), hfr a k (fun e => ha (by unfold sd_lay; omega)) (fun e => ha (by unfold sd_lay; omega))]
    exact h1 a k ha
  · obtain ⟨g1, g2⟩ := h2 q hq
    rw [sp_take_f (by omega), sp_take_f (by omega), ← hc]
    have hmine := sp_mine_per hG (c := c) (q := q) (by omega)
    by_cases eq : q = sp_per β c
    · rw [eq] at g1 g2 ⊢
      rw [eq] at hmine
      have hmt : sp_mine β (sp_per β c) c = true := by rw [hmine]; simp
      have g1' : sd_RV τ2 (sp_per β c) (((sp_srt (β 1) (sp_n β)).take i).filter (sp_cnts β (sp_per β c))) := sd_RV_cong g1 (hfr _ _ (by omega) (by omega)) (fun k => hfr _ _ (by omega) (by omega))
      have hnl : n = (((sp_srt (β 1) (sp_n β)).take i).filter (sp_cnts β (sp_per β c))).length := by
        have := g1'.1
        omega
      have hnle : n ≤ i := by
        rw [hnl]
        refine Nat.le_trans (List.length_filter_le _ _) ?_
        rw [List.length_take]; omega
      have hw2 : (w : Int) = ((((sp_srt (β 1) (sp_n β)).take i).filter (sp_mine β (sp_per β c))).length : Int) := by
        rw [← hw, hfr _ _ (by omega) (by omega)]; exact g2
      refine ⟨?_, ?_⟩
      · rcases t3 with ⟨a1, a2, a3, a4, a5⟩ | ⟨a1, a2, a3⟩
        · have hct : sp_cnts β (sp_per β c) c = true := by
            unfold sp_cnts
            rw [hmt]
            simp only [Bool.true_and, decide_eq_true_eq]
            omega
          rw [if_pos hct]
          rw [hnl] at a3 a4 a5
          exact sd_RV_app g1' a3 a4 a5
        · have hct : ¬ sp_cnts β (sp_per β c) c = true := by
            unfold sp_cnts
            rw [hmt]
            simp only [Bool.true_and, decide_eq_true_eq]
            omega
          rw [if_neg hct, List.append_nil]
          exact ⟨by rw [a2, hnl], fun j hj => by rw [a3]; exact g1'.2 j hj⟩
      · rw [t2, if_pos hmt, List.length_append]
        simp
        omega
    · have hmf : sp_mine β q c = false := by rw [hmine]; simp [eq]
      have hcf : sp_cnts β q c = false := by unfold sp_cnts; rw [hmf]; rfl
      rw [hmf, hcf]
      simp only [Bool.false_eq_true, if_false, List.append_nil]
      refine ⟨sd_RV_cong g1 ?_ (fun k => ?_), ?_⟩
      · rw [t1 _ _ (by omega) (by omega), hfr _ _ (by omega) (by omega)]
      · rw [t1 _ _ (by omega) (by omega), hfr _ _ (by omega) (by omega)]
      · rw [t1 _ _ (by omega) (by omega), hfr _ _ (by omega) (by omega)]; exact g2
  · rw [t1 10 _ (by omega) (by omega), t1 11 _ (by omega) (by omega)]
    by_cases ej : (sp_srt (β 1) (sp_n β)).getD j 0 = c
    · rw [ej, e2, sd_st_at, sd_st_ne (by decide), e1, sd_st_at]
      exact ⟨hm1, hm2⟩
    · have hji : j < i := by
        by_cases e : j = i
        · subst e; exact absurd hc.symm ej
        · omega
      rw [e2, sd_st_nk ej, sd_st_nk ej, e1, sd_st_nk ej, sd_st_nk ej]
      exact h3 j hji
theorem sd_l3_0 {σ τ : sd_Mem} {β : sp_B} (hG : sd_RG β) (h : sd_l2 σ β τ (sp_n β)) : sd_l3 σ β τ 0 := by
  obtain ⟨h1, h2, h3⟩ := h
  have hlen := sp_srt_len (t := β 1) (sp_n β)
  have ht : (sp_srt (β 1) (sp_n β)).take (sp_n β) = sp_srt (β 1) (sp_n β) := List.take_of_length_le (by omega)
  rw [ht] at h2
  refine ⟨h1, fun q hq => by omega, fun q _ hq => ⟨(h2 q hq).1, ?_⟩, fun c _ hc => by omega, fun c hc _ => ?_⟩
  · rw [(h2 q hq).2, sp_srt_ct]; rfl
  · have hm : c ∈ sp_srt (β 1) (sp_n β) := sp_srt_mem.mpr hc
    obtain ⟨j, hj, e⟩ := List.getElem_of_mem hm
    have e2 : (sp_srt (β 1) (sp_n β)).getD j 0 = c := by rw [List.getD_eq_getElem?_getD, List.getElem?_eq_getElem hj]; exact e
    have := h3 j (by omega)
    rw [e2] at this
    exact this
theorem sd_l3_end {σ τ : sd_Mem} {β : sp_B} (hG : sd_RG β) (h : sd_l3 σ β τ 24) : sd_LD τ β := ⟨fun q hq => h.2.1 q hq hq, fun c hc => h.2.2.2.1 c hc (sp_per_lt hG (by have := (sp_n_le hG).1; omega))⟩
theorem sd_l3_step {σ τ τ1 τ' : sd_Mem} {β : sp_B} {p : Nat} (hG : sd_RG β) (hp : p < 24) (h : sd_l3 σ β τ p)
    (d1 : ∀ i k, i ≠ 16 + p → τ1 i k = τ i k) (d2 : (τ1 (16 + p) 2).toInt = ((if sp_quick β (sp_raw β p) then ([] : List Nat) else sp_raw β p).length : Int)) (d3 : τ1 (16 + p) 3 = τ (16 + p) 3) (d4 : (τ1 (16 + p) 4).toInt = (if sp_quick β (sp_raw β p) then 1 else 0))
    (k1 : ∀ i k, i ≠ 10 → i ≠ 11 → ¬ (i = 16 + p ∧ k = 5) → τ' i k = τ1 i k) (k2 : ∀ c, c ∉ sp_row β p → τ' 10 c = τ1 10 c ∧ τ' 11 c = τ1 11 c) (k3 : ∀ j, j < (sp_row β p).length → (τ' 10 ((sp_row β p).getD j 0)).toInt = (j : Int) ∧ (τ' 11 ((sp_row β p).getD j 0)).toInt = (sp_ns β (sp_row β p) (j + 1) : Int) - 1) (k4 : (τ' (16 + p) 5).toInt = (sp_ns β (sp_row β p) (sp_row β p).length : Int)) : sd_l3 σ β τ' (p + 1) := by
  obtain ⟨h1, h2, h3, h4, h5⟩ := h
  have hN := (sp_n_le hG).1
  have hmem : ∀ c, c ∈ sp_row β p → c < sp_n β ∧ sp_per β c = p := by
    intro c hc
    obtain ⟨a1, a2, -⟩ := sp_raw_mem (sp_row_sub hc)
    rw [sp_mine_per hG (by omega)] at a2
    simp only [decide_eq_true_eq] at a2
    exact ⟨a1, a2.symm⟩
  refine ⟨fun a k ha => ?_, fun q hq hq2 => ?_, fun q hq hq2 => ?_, fun c hc hc2 => ?_, fun c hc hc2 => ?_⟩
  · rw [k1 a k (fun e => ha (by unfold sd_lay; omega)) (fun e => ha (by unfold sd_lay; omega)) (fun e => ha (by unfold sd_lay; omega)), d1 a k (fun e => ha (by unfold sd_lay; omega))]
    exact h1 a k ha
  · by_cases e : q = p
    · subst e
      obtain ⟨g1, g2⟩ := h3 q (Nat.le_refl q) hq2
      refine ⟨⟨?_, fun j hj => ?_⟩, ?_, ?_, k4⟩
      · rw [k1 _ _ (by omega) (by omega) (by omega)]; exact d2
      · rw [k1 _ _ (by omega) (by omega) (by omega), d1 _ _ (by omega)]
        unfold sp_row at hj ⊢
        split at hj
        · simp at hj
        · rename_i hqk
          rw [if_neg hqk]
          exact g1.2 j hj
      · rw [k1 _ _ (by omega) (by omega) (by omega), d3]; exact g2
      · rw [k1 _ _ (by omega) (by omega) (by omega)]; exact d4
    · obtain ⟨g1, g2, g3, g4⟩ := h2 q (by omega) hq2
      refine ⟨sd_RV_cong g1 ?_ (fun k => ?_), ?_, ?_, ?_⟩
      · rw [k1 _ _ (by omega) (by omega) (by omega), d1 _ _ (by omega)]
      · rw [k1 _ _ (by omega) (by omega) (by omega), d1 _ _ (by omega)]
      · rw [k1 _ _ (by omega) (by omega) (by omega), d1 _ _ (by omega)]; exact g2
      · rw [k1 _ _ (by omega) (by omega) (by omega), d1 _ _ (by omega)]; exact g3
      · rw [k1 _ _ (by omega) (by omega) (by omega), d1 _ _ (by omega)]; exact g4
  · obtain ⟨g1, g2⟩ := h3 q (by omega) hq2
    refine ⟨sd_RV_cong g1 ?_ (fun k => ?_), ?_⟩
    · rw [k1 _ _ (by omega) (by omega) (by omega), d1 _ _ (by omega)]
    · rw [k1 _ _ (by omega) (by omega) (by omega), d1 _ _ (by omega)]
    · rw [k1 _ _ (by omega) (by omega) (by omega), d1 _ _ (by omega)]; exact g2
  · by_cases hm : c ∈ sp_row β p
    · obtain ⟨j, hj, e⟩ := List.getElem_of_mem hm
      have e2 : (sp_row β p).getD j 0 = c := by rw [List.getD_eq_getElem?_getD, List.getElem?_eq_getElem hj]; exact e
      have g := k3 j hj
      rw [e2] at g
      have hpc := (hmem c hm).2
      unfold sd_LP
      rw [hpc, ← e2, sp_pl_at (sp_row_nodup β p) hj, sp_si_at (sp_row_nodup β p) hj, e2]
      exact g
    · obtain ⟨g1, g2⟩ := k2 c hm
      by_cases e : sp_per β c = p
      · have g := h5 c hc (by omega)
        unfold sd_LP
        rw [e, sp_pl_no hm, sp_si_no hm, g1, g2, d1 _ _ (by omega), d1 _ _ (by omega)]
        exact g
      · have g := h4 c hc (by omega)
        unfold sd_LP
        rw [g1, g2, d1 _ _ (by omega), d1 _ _ (by omega)]
        exact g
  · have hm : c ∉ sp_row β p := fun q => by have := (hmem c q).2; omega
    obtain ⟨g1, g2⟩ := k2 c hm
    rw [g1, g2, d1 _ _ (by omega), d1 _ _ (by omega)]
    exact h5 c hc (by omega)

def sd_RK (β : sp_B) : Prop := ∀ c, sp_n β ≤ c → c < 120 → β 4 c = 0
theorem sp_joined_nil {β : sp_B} (hG : sd_RG β) {q : Nat} (hq : q < 24) (h : β 5 q ≠ (q : Int)) : sp_raw β q = [] := by
  unfold sp_raw
  rw [List.filter_eq_nil_iff]
  intro c hc
  have hcn := sp_srt_mem.mp hc
  have hN := (sp_n_le hG).1
  have h1 := hG.2.1 c (by omega)
  have h2 := hG.2.2.1 (β 2 c).toNat (by omega)
  have h3 := hG.2.2.1 q hq
  unfold sp_cnts sp_mine
  simp only [Bool.and_eq_true, decide_eq_true_eq]
  rintro ⟨h4, -⟩
  have h5 : β 5 (β 2 c).toNat = ((β 2 c).toNat : Int) := by omega
  have h6 : (β 2 c).toNat = q := by omega
  rw [h6] at h4
  exact h h4
theorem sp_joined_row {β : sp_B} (hG : sd_RG β) {q : Nat} (hq : q < 24) (h : β 5 q ≠ (q : Int)) : sp_row β q = [] := by
  unfold sp_row
  rw [sp_joined_nil hG hq h]
  split <;> rfl
theorem sp_quick_nil (β : sp_B) : sp_quick β [] = false := by
  unfold sp_quick
  simp
theorem sp_mine_mark {β : sp_B} (hG : sd_RG β) {m c : Nat} (hm : 12 ≤ m) (hm2 : m < 24) (h5 : β 5 m = (m : Int)) (hc : c < 120) : sp_mine β m c = decide (β 2 c = (m : Int)) := by
  have h1 := hG.2.1 c hc
  have h2 := hG.2.2.1 (β 2 c).toNat (by omega)
  unfold sp_mine
  congr 1
  apply propext
  constructor
  · intro h; omega
  · intro h
    have e : (β 2 c).toNat = m := by omega
    rw [e]; exact h5
theorem sp_ct_s {p : Nat → Bool} {n : Nat} (h : p n = true) : sp_ct p (n + 1) = sp_ct p n + 1 := by rw [sp_ct, if_pos h]
theorem sp_ct_k {p : Nat → Bool} {n : Nat} (h : p n = false) : sp_ct p (n + 1) = sp_ct p n := by rw [sp_ct, h]; rfl
theorem sd_MR_set {σ : sd_Mem} {β : sp_B} (h : sd_MR σ β) {a i j : Nat} {x : Int32} {v : Int} (hv : x.toInt = v) (ha : (a = 4 ∧ i = 80 ∧ j < 120) ∨ (a = 5 ∧ i = 81 ∧ 12 ≤ j ∧ j < 24 ∧ 0 ≤ v ∧ v < 12) ∨ (a = 6 ∧ i = 82 ∧ j < 6)) : sd_MR (sd_st σ i j x) (b_set β a j v) := by
  obtain ⟨⟨a1, a2⟩, b, c, d, e, f⟩ := h
  refine ⟨⟨?_, ?_⟩, fun c1 hc => ?_, fun p hp => ?_, fun k hk => ?_, fun f1 hf => ?_, fun k hk => ?_⟩
  · rw [sd_st_ne (by omega), b_n1 (by omega)]; exact a1
  · rw [sd_st_ne (by omega), b_n1 (by omega)]; exact a2
  · rw [sd_st_ne (by omega), sd_st_ne (by omega), sd_st_ne (by omega), b_n1 (x := 1) (by omega), b_n1 (x := 2) (by omega), b_n1 (x := 3) (by omega)]
    refine ⟨(b c1 hc).1, (b c1 hc).2.1, (b c1 hc).2.2.1, ?_⟩
    rw [sd_st_eq]
    unfold b_set
    by_cases q : a = 4 ∧ c1 = j
    · rw [if_pos (by omega), if_pos (by omega)]; exact hv
    · rw [if_neg (by omega), if_neg (by omega)]; exact (b c1 hc).2.2.2
  · rw [sd_st_eq]
    unfold b_set
    by_cases q : a = 5 ∧ p = j
    · rw [if_pos (by omega), if_pos (by omega)]; right; omega
    · rw [if_neg (by omega), if_neg (by omega)]; exact c p hp
  · rw [sd_st_eq]
    unfold b_set
    by_cases q : a = 6 ∧ k = j
    · rw [if_pos (by omega), if_pos (by omega)]; exact hv
    · rw [if_neg (by omega), if_neg (by omega)]; exact d k hk
  · rw [sd_st_ne (by omega), sd_st_ne (by omega), sd_st_ne (by omega), sd_st_ne (by omega), b_n1 (x := 7) (by omega), b_n1 (x := 8) (by omega), b_n1 (x := 9) (by omega), b_n1 (x := 10) (by omega)]; exact e f1 hf
  · rw [sd_st_ne (by omega), b_n1 (by omega)]; exact f k hk
theorem sd_MR_click {σ s1 s2 s3 s4 s5 : sd_Mem} {β : sp_B} (hM : sd_MR σ β) (hG : sd_RG β) (hK : sd_RK β) (hn : sp_n β < 120) {x1 x2 x3 z w : Int32} (e1 : s1 = sd_st σ 77 (sp_n β) x1) (e2 : s2 = sd_st s1 78 (sp_n β) x2) (e3 : s3 = sd_st s2 79 (sp_n β) x3) (e4 : s4 = sd_st s3 80 (sp_n β) z) (e5 : s5 = sd_st s4 76 0 w) (hz : z.toInt = 0) (hw : w.toInt = (sp_n β : Int) + 1) : sd_MR s5 (b_click β x1.toInt x2.toInt x3.toInt) := by
  have hN := sp_n_le hG
  have hk := hK (sp_n β) (Nat.le_refl _) hn
  obtain ⟨⟨a1, a2⟩, b, c, d, e, f⟩ := hM
  have fr : ∀ i k, i ≠ 77 → i ≠ 78 → i ≠ 79 → i ≠ 80 → ¬ (i = 76 ∧ k = 0) → s5 i k = σ i k := by
    intro i k q1 q2 q3 q4 q5
    rw [e5]
    by_cases q : i = 76
    · subst q
      rw [sd_st_nk (fun h => q5 ⟨rfl, h⟩), e4, sd_st_ne q4, e3, sd_st_ne q3, e2, sd_st_ne q2, e1, sd_st_ne q1]
    · rw [sd_st_ne q, e4, sd_st_ne q4, e3, sd_st_ne q3, e2, sd_st_ne q2, e1, sd_st_ne q1]
  unfold b_click
  refine ⟨⟨?_, ?_⟩, fun c1 hc => ?_, fun p hp => ?_, fun k hk => ?_, fun f1 hf => ?_, fun k hk => ?_⟩
  · rw [b_n1 (x := 0) (by omega), b_n1 (x := 0) (by omega), b_n1 (x := 0) (by omega), b_at, e5, sd_st_at]; omega
  · rw [b_n1 (x := 0) (by omega), b_n1 (x := 0) (by omega), b_n1 (x := 0) (by omega), b_n2 (y := 1) (by omega), fr 76 7 (by omega) (by omega) (by omega) (by omega) (by omega)]; exact a2
  · have := b c1 hc
    rw [e5, e4, e3, e2, e1]
    simp only [sd_st_eq, b_set]
    refine ⟨?_, ?_, ?_, ?_⟩
    · by_cases q : c1 = sp_n β
      · simp [q]
      · simp [q]; exact this.1
    · by_cases q : c1 = sp_n β
      · simp [q]
      · simp [q]; exact this.2.1
    · by_cases q : c1 = sp_n β
      · simp [q]
      · simp [q]; exact this.2.2.1
    · by_cases q : c1 = sp_n β
      · simp [q]; omega
      · simp [q]; exact this.2.2.2
  · rw [fr 81 p (by omega) (by omega) (by omega) (by omega) (by omega), b_n1 (by omega), b_n1 (by omega), b_n1 (by omega), b_n1 (by omega)]; exact c p hp
  · rw [fr 82 k (by omega) (by omega) (by omega) (by omega) (by omega), b_n1 (by omega), b_n1 (by omega), b_n1 (by omega), b_n1 (by omega)]; exact d k hk
  · rw [fr 83 f1 (by omega) (by omega) (by omega) (by omega) (by omega), fr 84 f1 (by omega) (by omega) (by omega) (by omega) (by omega), fr 85 f1 (by omega) (by omega) (by omega) (by omega) (by omega), fr 86 f1 (by omega) (by omega) (by omega) (by omega) (by omega)]
    have := e f1 hf
    simp only [b_set]
    simp
    exact this
  · rw [fr 87 k (by omega) (by omega) (by omega) (by omega) (by omega), b_n1 (by omega), b_n1 (by omega), b_n1 (by omega), b_n1 (by omega)]; exact f k hk
def sp_cf (β : sp_B) (w : Int) (q : Nat) : Int := if w = 1 then ((sp_row β q).length : Int) else if w = 2 then (sp_ns β (sp_row β q) (sp_row β q).length : Int) else if w = 3 then sp_b (decide (0 < (sp_row β q).length)) else if w = 4 then sp_b (sp_quick β (sp_raw β q)) else if w = 5 then sp_b (decide (β 5 q ≠ (q : Int))) else 0
theorem an_count_cf {β : sp_B} {w : Int} (h0 : 0 ≤ w) (h6 : w ≤ 6) : an_count β w = if w = 0 then β 0 0 else if w = 6 then β 0 1 else sp_sum (sp_cf β w) 24 := by
  have hw : w = 0 ∨ w = 1 ∨ w = 2 ∨ w = 3 ∨ w = 4 ∨ w = 5 ∨ w = 6 := by omega
  rcases hw with rfl | rfl | rfl | rfl | rfl | rfl | rfl <;> rfl
theorem sp_cf_rng {β : sp_B} (hG : sd_RG β) (w : Int) (q : Nat) : 0 ≤ sp_cf β w q ∧ sp_cf β w q ≤ 120 := by
  have h1 := (sp_row_ok hG q).1
  have h2 := sp_ns_le β (sp_row β q) (sp_row β q).length
  have h3 := sp_b_rng (decide (0 < (sp_row β q).length))
  have h4 := sp_b_rng (sp_quick β (sp_raw β q))
  have h5 := sp_b_rng (decide (β 5 q ≠ (q : Int)))
  unfold sp_cf
  repeat' split
  all_goals omega
theorem sp_cf_joined {β : sp_B} (hG : sd_RG β) {w : Int} {q : Nat} (hq : q < 24) (h : β 5 q ≠ (q : Int)) : sp_cf β w q = if w = 5 then 1 else 0 := by
  unfold sp_cf
  rw [sp_joined_row hG hq h, sp_joined_nil hG hq h, sp_quick_nil, sp_b1 (decide_eq_true h)]
  repeat' split
  all_goals first | rfl | omega | (simp [sp_b]; done)
theorem sp_cf_own {β : sp_B} {w : Int} {q : Nat} (h : β 5 q = (q : Int)) (hw : w < 1 ∨ 4 < w) : sp_cf β w q = 0 := by
  unfold sp_cf
  rw [if_neg (by omega), if_neg (by omega), if_neg (by omega), if_neg (by omega)]
  split
  · exact sp_b0 (decide_eq_false (fun z => z h))
  · rfl
theorem an_born_came (β : sp_B) (w : Int) : an_came β w 0 = an_born β w := by
  unfold an_came an_born
  by_cases hw : w < 0 ∨ 20 ≤ w
  · rw [if_pos (by omega), if_pos hw]
  · rw [if_neg (by omega), if_neg hw]
    refine sp_sum_cong (fun q _ => ?_)
    congr 1
    by_cases hb : sp_birth β (sp_row β q) = w
    · rw [decide_eq_true hb, Bool.true_and, Int.add_zero]
      unfold sp_birth at hb
      cases hf : (sp_row β q).find? (fun c => decide (β 3 c = β 6 5)) with
      | none => rw [hf] at hb; simp at hb; omega
      | some c =>
        rw [hf] at hb
        have hm := List.mem_of_find?_eq_some hf
        unfold sp_came
        exact List.any_eq_true.mpr ⟨c, hm, by simpa using hb⟩
    · rw [decide_eq_false hb, Bool.false_and]
theorem sp_birth_nil (β : sp_B) : sp_birth β [] = -1 := rfl
theorem sp_pl_cases {l : List Nat} (hn : l.Nodup) {c : Nat} {z : Int} (h : (z = -1 ∧ ∀ i, i < l.length → l.getD i 0 ≠ c) ∨ (∃ i, i < l.length ∧ l.getD i 0 = c ∧ z = (i : Int))) : z = sp_pl l c := by
  rcases h with ⟨h1, h2⟩ | ⟨i, h1, h2, h3⟩
  · rw [sp_pl_no, h1]
    intro hm
    obtain ⟨i, hi, e⟩ := List.getElem_of_mem hm
    exact h2 i hi (by rw [List.getD_eq_getElem?_getD, List.getElem?_eq_getElem hi]; exact e)
  · rw [← h2, sp_pl_at hn h1, h3]

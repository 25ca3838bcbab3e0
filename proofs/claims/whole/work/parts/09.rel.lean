def sp_si (β : sp_B) (l : List Nat) (c : Nat) : Int := if c ∈ l then (sp_ns β l (l.idxOf c + 1) : Int) - 1 else -1
theorem sp_si_at {β : sp_B} {l : List Nat} (hn : l.Nodup) {j : Nat} (h : j < l.length) : sp_si β l (l.getD j 0) = (sp_ns β l (j + 1) : Int) - 1 := by
  unfold sp_si
  rw [if_pos (sp_getD_mem h)]
  have e : l.getD j 0 = l[j] := by rw [List.getD_eq_getElem?_getD, List.getElem?_eq_getElem h]; rfl
  rw [e, hn.idxOf_getElem j h]
theorem sp_si_no {β : sp_B} {l : List Nat} {c : Nat} (h : c ∉ l) : sp_si β l c = -1 := by unfold sp_si; rw [if_neg h]
/-- the ranges of what was told -/
def sd_RG (β : sp_B) : Prop := (0 ≤ β 0 0 ∧ β 0 0 ≤ 120 ∧ 0 ≤ β 0 1 ∧ β 0 1 ≤ 6) ∧ (∀ c, c < 120 → 0 ≤ β 1 c ∧ β 1 c ≤ 200000 ∧ 0 ≤ β 2 c ∧ β 2 c < 24 ∧ 0 ≤ β 3 c ∧ β 3 c < 8 ∧ (β 4 c = 0 ∨ β 4 c = 1)) ∧ (∀ p, p < 24 → 0 ≤ β 5 p ∧ β 5 p < 24 ∧ (β 5 p = (p : Int) ∨ (12 ≤ p ∧ β 5 p < 12))) ∧ (0 ≤ β 6 0 ∧ β 6 0 ≤ 10000 ∧ 0 ≤ β 6 1 ∧ β 6 1 ≤ 1 ∧ -1 ≤ β 6 2 ∧ β 6 2 ≤ 7 ∧ 0 ≤ β 6 3 ∧ β 6 3 ≤ 100 ∧ 1 ≤ β 6 4 ∧ β 6 4 ≤ 10000 ∧ 0 ≤ β 6 5 ∧ β 6 5 ≤ 7) ∧ (∀ f, f < 6 → 0 ≤ β 7 f ∧ β 7 f ≤ 4 ∧ (β 8 f = 0 ∨ β 8 f = 1) ∧ 0 ≤ β 9 f ∧ β 9 f ≤ 100000 ∧ -1 ≤ β 10 f ∧ β 10 f ≤ 7) ∧ (∀ k, k < 24 → 0 ≤ β 11 k ∧ β 11 k < 8)
def sd_CR (σ : sd_Mem) (β : sp_B) : Prop := ((σ 1 5).toInt = β 0 0 ∧ (σ 0 7).toInt = β 0 1) ∧ (∀ c, c < 120 → (σ 2 c).toInt = β 1 c ∧ (σ 3 c).toInt = β 2 c ∧ (σ 4 c).toInt = β 3 c ∧ (σ 5 c).toInt = β 4 c) ∧ (∀ p, p < 24 → (σ 7 p).toInt = β 5 p) ∧ (∀ j, j < 6 → (σ 8 j).toInt = β 6 j) ∧ (∀ f, f < 6 → (σ (64 + f) 1).toInt = β 7 f ∧ (σ (64 + f) 2).toInt = β 8 f ∧ (σ (64 + f) 3).toInt = β 9 f ∧ (σ (64 + f) 4).toInt = β 10 f) ∧ (∀ f j, f < 6 → j < 4 → (σ (70 + f) j).toInt = β 11 (4 * f + j))
def sd_BT (σ : sd_Mem) (β : sp_B) : Prop := ∀ i, i < sp_n β → (σ 6 i).toInt = (((sp_srt (β 1) (sp_n β)).getD i 0 : Nat) : Int)
def sd_RV (σ : sd_Mem) (q : Nat) (l : List Nat) : Prop := (σ (16 + q) 2).toInt = (l.length : Int) ∧ ∀ j, j < l.length → (σ (40 + q) j).toInt = ((l.getD j 0 : Nat) : Int)
def sd_RW (σ : sd_Mem) (β : sp_B) (q : Nat) (l : List Nat) : Prop := sd_CR σ β ∧ sd_RG β ∧ sd_RV σ q l ∧ l.length ≤ 120 ∧ ∀ j, j < l.length → l.getD j 0 < 120
def sd_LR (σ : sd_Mem) (β : sp_B) (q : Nat) : Prop := sd_RV σ q (sp_row β q) ∧ (σ (16 + q) 3).toInt = (sp_owned β q : Int) ∧ (σ (16 + q) 4).toInt = (if sp_quick β (sp_raw β q) then 1 else 0) ∧ (σ (16 + q) 5).toInt = (sp_ns β (sp_row β q) (sp_row β q).length : Int)
def sp_per (β : sp_B) (c : Nat) : Nat := (β 5 (β 2 c).toNat).toNat
def sd_LP (σ : sd_Mem) (β : sp_B) (c : Nat) : Prop := (σ 10 c).toInt = sp_pl (sp_row β (sp_per β c)) c ∧ (σ 11 c).toInt = sp_si β (sp_row β (sp_per β c)) c
def sd_LD (σ : sd_Mem) (β : sp_B) : Prop := (∀ q, q < 24 → sd_LR σ β q) ∧ ∀ c, c < sp_n β → sd_LP σ β c
def sd_MR (σ : sd_Mem) (β : sp_B) : Prop := ((σ 76 0).toInt = β 0 0 ∧ (σ 76 7).toInt = β 0 1) ∧ (∀ c, c < 120 → (σ 77 c).toInt = β 1 c ∧ (σ 78 c).toInt = β 2 c ∧ (σ 79 c).toInt = β 3 c ∧ (σ 80 c).toInt = β 4 c) ∧ (∀ p, p < 24 → ((σ 81 p).toInt = -1 ∧ β 5 p = (p : Int)) ∨ ((σ 81 p).toInt = β 5 p ∧ 12 ≤ p ∧ 0 ≤ β 5 p ∧ β 5 p < 12)) ∧ (∀ j, j < 6 → (σ 82 j).toInt = β 6 j) ∧ (∀ f, f < 6 → (σ 83 f).toInt = β 8 f ∧ (σ 84 f).toInt = β 9 f ∧ (σ 85 f).toInt = β 10 f ∧ (σ 86 f).toInt = β 7 f) ∧ (∀ k, k < 24 → (σ 87 k).toInt = β 11 k)
theorem sp_n_le {β : sp_B} (h : sd_RG β) : sp_n β ≤ 120 ∧ ((sp_n β : Nat) : Int) = β 0 0 := by
  obtain ⟨⟨h1, h2, -⟩, -⟩ := h
  unfold sp_n
  omega
theorem sp_row_ok {β : sp_B} (h : sd_RG β) (p : Nat) : (sp_row β p).length ≤ 120 ∧ ∀ j, j < (sp_row β p).length → (sp_row β p).getD j 0 < 120 := by
  have h1 := sp_n_le h
  have h2 := sp_row_len β p
  refine ⟨by omega, fun j hj => ?_⟩
  have h3 := (sp_raw_mem (sp_row_sub (sp_getD_mem hj))).1
  omega
theorem sp_raw_ok {β : sp_B} (h : sd_RG β) (p : Nat) : (sp_raw β p).length ≤ 120 ∧ ∀ j, j < (sp_raw β p).length → (sp_raw β p).getD j 0 < 120 := by
  have h1 := sp_n_le h
  have h2 := sp_raw_len β p
  refine ⟨by omega, fun j hj => ?_⟩
  have h3 := (sp_raw_mem (sp_getD_mem hj)).1
  omega
theorem sd_LR.rw {σ : sd_Mem} {β : sp_B} {q : Nat} (h : sd_LR σ β q) (hC : sd_CR σ β) (hG : sd_RG β) : sd_RW σ β q (sp_row β q) := ⟨hC, hG, h.1, sp_row_ok hG q⟩
/-- at a place of a row -/
theorem sd_RW.at {σ : sd_Mem} {β : sp_B} {q : Nat} {l : List Nat} (h : sd_RW σ β q l) {j : Nat} (hj : j < l.length) : (σ (40 + q) j).toInt.toNat = l.getD j 0 ∧ l.getD j 0 < 120 ∧ 0 ≤ (σ (40 + q) j).toInt ∧ (σ (40 + q) j).toInt < 120 ∧ (σ 2 (l.getD j 0)).toInt = β 1 (l.getD j 0) ∧ (σ 4 (l.getD j 0)).toInt = β 3 (l.getD j 0) ∧ 0 ≤ β 1 (l.getD j 0) ∧ β 1 (l.getD j 0) ≤ 200000 ∧ 0 ≤ β 3 (l.getD j 0) ∧ β 3 (l.getD j 0) < 8 := by
  obtain ⟨hC, hG, hV, hL, hB⟩ := h
  have h1 := hV.2 j hj
  have h2 := hB j hj
  have h3 := hC.2.1 _ h2
  have h4 := hG.2.1 _ h2
  refine ⟨by omega, h2, by omega, by omega, h3.1, h3.2.2.1, h4.1, h4.2.1, h4.2.2.2.2.1, h4.2.2.2.2.2.1⟩
theorem sp_find_none {p : Nat → Bool} {l : List Nat} (h : ∀ j, j < l.length → p (l.getD j 0) = false) : l.find? p = none := by
  rw [List.find?_eq_none]
  intro x hx
  obtain ⟨i, hi, rfl⟩ := List.getElem_of_mem hx
  have := h i hi
  rw [List.getD_eq_getElem?_getD, List.getElem?_eq_getElem hi] at this
  simpa using this
theorem sp_find_some {p : Nat → Bool} : ∀ {l : List Nat} {i : Nat}, i < l.length → p (l.getD i 0) = true → (∀ j, j < i → p (l.getD j 0) = false) → l.find? p = some (l.getD i 0)
  | [], i, hi, _, _ => by simp at hi
  | a :: l, 0, _, h, _ => by
    have h' : p a = true := by simpa using h
    simp [List.find?_cons, h']
  | a :: l, i + 1, hi, h, hj => by
    have h0 : p a = false := by simpa using hj 0 (by omega)
    rw [List.find?_cons, h0]
    have := sp_find_some (p := p) (l := l) (i := i) (by simpa using hi) (by simpa using h) (fun j q => by simpa using hj (j + 1) (by omega))
    simpa using this
theorem sp_birth_none {β : sp_B} {l : List Nat} (h : ∀ j, j < l.length → β 3 (l.getD j 0) ≠ β 6 5) : sp_birth β l = -1 := by
  unfold sp_birth
  rw [sp_find_none (fun j hj => by simpa using h j hj)]
theorem sp_birth_some {β : sp_B} {l : List Nat} {i : Nat} (hi : i < l.length) (h : β 3 (l.getD i 0) = β 6 5) (hj : ∀ j, j < i → β 3 (l.getD j 0) ≠ β 6 5) : sp_birth β l = β 1 (l.getD i 0) / 10080 := by
  unfold sp_birth
  rw [sp_find_some hi (by simpa using h) (fun j q => by simpa using hj j q)]
theorem sp_any_false {p : Nat → Bool} {l : List Nat} (h : ∀ j, j < l.length → p (l.getD j 0) = false) : l.any p = false := by
  rw [List.any_eq_false]
  intro x hx
  obtain ⟨i, hi, rfl⟩ := List.getElem_of_mem hx
  have := h i hi
  rw [List.getD_eq_getElem?_getD, List.getElem?_eq_getElem hi] at this
  simpa using this
theorem sp_any_true {p : Nat → Bool} {l : List Nat} {i : Nat} (hi : i < l.length) (h : p (l.getD i 0) = true) : l.any p = true := List.any_eq_true.mpr ⟨_, sp_getD_mem hi, h⟩
theorem sp_came_true {β : sp_B} {l : List Nat} {w : Int} {i : Nat} (hi : i < l.length) (h : β 1 (l.getD i 0) / 10080 = w) : sp_came β l w = true := sp_any_true hi (by simpa using h)
theorem sp_came_false {β : sp_B} {l : List Nat} {w : Int} (h : ∀ j, j < l.length → β 1 (l.getD j 0) / 10080 ≠ w) : sp_came β l w = false := sp_any_false (fun j hj => by simpa using h j hj)
theorem sp_quick_zero {β : sp_B} {l : List Nat} (h : β 6 3 ≤ 0) : sp_quick β l = false := by
  unfold sp_quick
  have : ¬ 0 < β 6 3 := by omega
  simp [this]
theorem sp_quick_true {β : sp_B} {l : List Nat} {r i : Nat} (hr : β 6 3 = (r : Int)) (h0 : 0 < r) (hi : i + r < l.length) (h : β 1 (l.getD (i + r) 0) - β 1 (l.getD i 0) < β 6 4) : sp_quick β l = true := by
  unfold sp_quick
  have e : (β 6 3).toNat = r := by omega
  rw [e, Bool.and_eq_true]
  refine ⟨by simp only [decide_eq_true_eq]; omega, List.any_eq_true.mpr ⟨i, List.mem_range.mpr (by omega), ?_⟩⟩
  simp only [Bool.and_eq_true, decide_eq_true_eq]
  exact ⟨hi, h⟩
theorem sp_quick_false {β : sp_B} {l : List Nat} {r : Nat} (hr : β 6 3 = (r : Int)) (h : ∀ i, i + r < l.length → ¬ (β 1 (l.getD (i + r) 0) - β 1 (l.getD i 0) < β 6 4)) : sp_quick β l = false := by
  unfold sp_quick
  have e : (β 6 3).toNat = r := by omega
  rw [e, Bool.and_eq_false_iff]
  right
  rw [List.any_eq_false]
  intro i _
  simp only [Bool.and_eq_true, decide_eq_true_eq]
  exact fun q => h i q.1 q.2

/-! the rows of a person, as the document has them: sorted clicks, cut into sittings -/
def sp_ins (t : Nat → Int) (c : Nat) (l : List Nat) : List Nat := l.filter (fun d => decide (t d ≤ t c)) ++ c :: l.filter (fun d => decide (t c < t d))
def sp_srt (t : Nat → Int) : Nat → List Nat
  | 0 => []
  | c + 1 => sp_ins t c (sp_srt t c)
def sp_ct (p : Nat → Bool) : Nat → Nat
  | 0 => 0
  | n + 1 => sp_ct p n + if p n then 1 else 0
theorem sp_ins_mem {t : Nat → Int} {c d : Nat} {l : List Nat} : d ∈ sp_ins t c l ↔ d = c ∨ d ∈ l := by
  unfold sp_ins
  simp only [List.mem_append, List.mem_cons, List.mem_filter, decide_eq_true_eq]
  constructor
  · rintro (h | h | h)
    · exact Or.inr h.1
    · exact Or.inl h
    · exact Or.inr h.1
  · rintro (h | h)
    · exact Or.inr (Or.inl h)
    · rcases Int.lt_or_le (t c) (t d) with q | q
      · exact Or.inr (Or.inr ⟨h, q⟩)
      · exact Or.inl ⟨h, q⟩
theorem sp_srt_mem {t : Nat → Int} : ∀ {n c : Nat}, c ∈ sp_srt t n ↔ c < n
  | 0, c => by simp [sp_srt]
  | n + 1, c => by
    rw [sp_srt, sp_ins_mem, sp_srt_mem (n := n)]
    omega
theorem sp_ins_sorted {t : Nat → Int} {c : Nat} {l : List Nat} (h : l.Pairwise (fun a b => t a ≤ t b)) : (sp_ins t c l).Pairwise (fun a b => t a ≤ t b) := by
  unfold sp_ins
  refine List.pairwise_append.mpr ⟨h.filter _, List.pairwise_cons.mpr ⟨fun b hb => ?_, h.filter _⟩, fun a ha b hb => ?_⟩
  · have := (List.mem_filter.mp hb).2
    simp only [decide_eq_true_eq] at this
    omega
  · have h1 := (List.mem_filter.mp ha).2
    simp only [decide_eq_true_eq] at h1
    rcases List.mem_cons.mp hb with rfl | hb
    · exact h1
    · have h2 := (List.mem_filter.mp hb).2
      simp only [decide_eq_true_eq] at h2
      omega
theorem sp_srt_sorted {t : Nat → Int} : ∀ n : Nat, (sp_srt t n).Pairwise (fun a b => t a ≤ t b)
  | 0 => List.Pairwise.nil
  | n + 1 => sp_ins_sorted (sp_srt_sorted n)
theorem sp_split {t : Nat → Int} (x : Int) : ∀ {l : List Nat}, l.Pairwise (fun a b => t a ≤ t b) → l.filter (fun d => decide (t d ≤ x)) ++ l.filter (fun d => decide (x < t d)) = l
  | [], _ => rfl
  | a :: l, h => by
    obtain ⟨h1, h2⟩ := List.pairwise_cons.mp h
    have ih := sp_split x h2
    by_cases q : t a ≤ x
    · have q2 : ¬ x < t a := by omega
      simp only [List.filter_cons, q, q2, decide_true, decide_false, if_true, List.cons_append]
      simpa using ih
    · have q2 : x < t a := by omega
      have e1 : l.filter (fun d => decide (t d ≤ x)) = [] := by
        rw [List.filter_eq_nil_iff]
        intro b hb
        have := h1 b hb
        simp only [decide_eq_true_eq]
        omega
      have e2 : l.filter (fun d => decide (x < t d)) = l := by
        rw [List.filter_eq_self]
        intro b hb
        have := h1 b hb
        simp only [decide_eq_true_eq]
        omega
      simp only [List.filter_cons, q, q2, decide_true, decide_false, if_true, e1, e2]
      simp
theorem sp_ins_filter {t : Nat → Int} {c : Nat} {l : List Nat} (p : Nat → Bool) (h : l.Pairwise (fun a b => t a ≤ t b)) : (sp_ins t c l).filter p = if p c then sp_ins t c (l.filter p) else l.filter p := by
  unfold sp_ins
  rw [List.filter_append, List.filter_cons]
  have comm : ∀ q : Nat → Bool, (l.filter q).filter p = (l.filter p).filter q := by
    intro q
    rw [List.filter_filter, List.filter_filter]
    congr 1
    funext a
    exact Bool.and_comm _ _
  by_cases hp : p c = true
  · rw [if_pos hp, if_pos hp, comm, comm]
  · rw [if_neg hp, if_neg hp, comm, comm]
    exact sp_split (t c) (h.filter p)
def sp_gr (t : Nat → Int) (p : Nat → Bool) : Nat → List Nat
  | 0 => []
  | c + 1 => if p c then sp_ins t c (sp_gr t p c) else sp_gr t p c
theorem sp_gr_eq {t : Nat → Int} (p : Nat → Bool) : ∀ n : Nat, sp_gr t p n = (sp_srt t n).filter p
  | 0 => rfl
  | n + 1 => by
    rw [sp_gr, sp_srt, sp_ins_filter p (sp_srt_sorted n), sp_gr_eq p n]
theorem sp_ins_len {t : Nat → Int} {c : Nat} {l : List Nat} : (sp_ins t c l).length = l.length + 1 := by
  unfold sp_ins
  rw [List.length_append, List.length_cons]
  have h : ∀ l : List Nat, (l.filter (fun d => decide (t d ≤ t c))).length + (l.filter (fun d => decide (t c < t d))).length = l.length := by
    intro l
    induction l with
    | nil => rfl
    | cons a l ih =>
      by_cases q : t a ≤ t c
      · have q2 : ¬ t c < t a := by omega
        simp only [List.filter_cons, q, q2, decide_true, decide_false, if_true, List.length_cons]
        simp
        omega
      · have q2 : t c < t a := by omega
        simp only [List.filter_cons, q, q2, decide_true, decide_false, if_true, List.length_cons]
        simp
        omega
  have := h l
  omega
theorem sp_srt_len {t : Nat → Int} : ∀ n : Nat, (sp_srt t n).length = n
  | 0 => rfl
  | n + 1 => by rw [sp_srt, sp_ins_len, sp_srt_len n]
theorem sp_srt_ct {t : Nat → Int} (p : Nat → Bool) : ∀ n : Nat, ((sp_srt t n).filter p).length = sp_ct p n
  | 0 => rfl
  | n + 1 => by
    rw [sp_srt, sp_ins_filter p (sp_srt_sorted n), sp_ct, ← sp_srt_ct (t := t) p n]
    by_cases hp : p n = true
    · rw [if_pos hp, if_pos hp, sp_ins_len]
    · rw [if_neg hp, if_neg hp]; rfl
theorem sp_ct_cong {p q : Nat → Bool} : ∀ {n : Nat}, (∀ c, c < n → p c = q c) → sp_ct p n = sp_ct q n
  | 0, _ => rfl
  | n + 1, h => by rw [sp_ct, sp_ct, sp_ct_cong (n := n) (fun c hc => h c (by omega)), h n (by omega)]
theorem sp_ct_le {p : Nat → Bool} : ∀ n : Nat, sp_ct p n ≤ n
  | 0 => Nat.le_refl 0
  | n + 1 => by
    have := sp_ct_le (p := p) n
    rw [sp_ct]
    by_cases hp : p n = true
    · rw [if_pos hp]; omega
    · rw [if_neg hp]; omega
theorem sp_ins_nodup {t : Nat → Int} {c : Nat} {l : List Nat} (h : l.Nodup) (hc : c ∉ l) : (sp_ins t c l).Nodup := by
  unfold sp_ins
  refine List.pairwise_append.mpr ⟨h.filter _, List.pairwise_cons.mpr ⟨fun b hb e => ?_, h.filter _⟩, fun a ha b hb e => ?_⟩
  · subst e
    exact hc (List.mem_filter.mp hb).1
  · subst e
    rcases List.mem_cons.mp hb with e2 | hb
    · subst e2
      exact hc (List.mem_filter.mp ha).1
    · have h1 := (List.mem_filter.mp ha).2
      have h2 := (List.mem_filter.mp hb).2
      simp only [decide_eq_true_eq] at h1 h2
      omega
theorem sp_srt_nodup {t : Nat → Int} : ∀ n : Nat, (sp_srt t n).Nodup
  | 0 => List.Pairwise.nil
  | n + 1 => sp_ins_nodup (sp_srt_nodup n) (fun h => by have := sp_srt_mem.mp h; omega)
theorem sp_ins_cong {t t' : Nat → Int} {c : Nat} {l : List Nat} (hc : t c = t' c) (h : ∀ d ∈ l, t d = t' d) : sp_ins t c l = sp_ins t' c l := by
  unfold sp_ins
  rw [List.filter_congr (l := l) (q := fun d => decide (t' d ≤ t' c)) (fun d hd => by rw [h d hd, hc]), List.filter_congr (l := l) (p := fun d => decide (t c < t d)) (q := fun d => decide (t' c < t' d)) (fun d hd => by rw [h d hd, hc])]
theorem sp_srt_cong {t t' : Nat → Int} : ∀ {n : Nat}, (∀ c, c < n → t c = t' c) → sp_srt t n = sp_srt t' n
  | 0, _ => rfl
  | n + 1, h => by
    rw [sp_srt, sp_srt, ← sp_srt_cong (n := n) (fun c hc => h c (by omega))]
    exact sp_ins_cong (h n (by omega)) (fun d hd => h d (by have := sp_srt_mem.mp hd; omega))
theorem sp_take_filter {t : Nat → Int} {x : Int} : ∀ {l : List Nat} {a : Nat}, l.Pairwise (fun a b => t a ≤ t b) → a ≤ l.length → (∀ j, a ≤ j → j < l.length → x < t (l.getD j 0)) → (a = 0 ∨ t (l.getD (a - 1) 0) ≤ x) → l.filter (fun d => decide (t d ≤ x)) = l.take a ∧ l.filter (fun d => decide (x < t d)) = l.drop a
  | [], a, _, ha, _, _ => by
    have : a = 0 := by simpa using ha
    subst this
    exact ⟨rfl, rfl⟩
  | b :: l, 0, hs, _, hj, _ => by
    obtain ⟨h1, h2⟩ := List.pairwise_cons.mp hs
    have hb : x < t b := by simpa using hj 0 (Nat.le_refl 0) (by simp)
    constructor
    · rw [List.take_zero, List.filter_eq_nil_iff]
      intro d hd
      simp only [decide_eq_true_eq]
      rcases List.mem_cons.mp hd with rfl | hd
      · omega
      · have := h1 d hd; omega
    · rw [List.drop_zero, List.filter_eq_self]
      intro d hd
      simp only [decide_eq_true_eq]
      rcases List.mem_cons.mp hd with rfl | hd
      · omega
      · have := h1 d hd; omega
  | b :: l, a + 1, hs, ha, hj, hx => by
    obtain ⟨h1, h2⟩ := List.pairwise_cons.mp hs
    have ha' : a ≤ l.length := by simpa using ha
    have hb : t b ≤ x := by
      rcases hx with q | q
      · omega
      · cases a with
        | zero => simpa using q
        | succ a =>
          have e : (b :: l).getD (a + 1 + 1 - 1) 0 = l.getD a 0 := by simp
          rw [e] at q
          have hm : l.getD a 0 ∈ l := by
            rw [List.getD_eq_getElem?_getD, List.getElem?_eq_getElem (by omega)]
            simp
          have := h1 _ hm
          omega
    have ih := sp_take_filter (t := t) (x := x) (l := l) (a := a) h2 ha' (fun j q1 q2 => by simpa using hj (j + 1) (by omega) (by simpa using q2)) (by
      cases a with
      | zero => exact Or.inl rfl
      | succ a =>
        right
        rcases hx with q | q
        · omega
        · simpa using q)
    have q2 : ¬ x < t b := by omega
    constructor
    · simp only [List.filter_cons, hb, decide_true, if_true, List.take_succ_cons]
      rw [ih.1]
    · simp only [List.filter_cons, q2, decide_false, List.drop_succ_cons]
      simpa using ih.2
theorem sp_ins_at {t : Nat → Int} {c : Nat} {l : List Nat} {a : Nat} (hs : l.Pairwise (fun a b => t a ≤ t b)) (ha : a ≤ l.length) (hj : ∀ j, a ≤ j → j < l.length → t c < t (l.getD j 0)) (hx : a = 0 ∨ t (l.getD (a - 1) 0) ≤ t c) : sp_ins t c l = l.take a ++ c :: l.drop a := by
  obtain ⟨h1, h2⟩ := sp_take_filter hs ha hj hx
  unfold sp_ins
  rw [h1, h2]
theorem sp_insD {l : List Nat} {c a j : Nat} (ha : a ≤ l.length) : (l.take a ++ c :: l.drop a).getD j 0 = if j < a then l.getD j 0 else if j = a then c else l.getD (j - 1) 0 := by
  simp only [List.getD_eq_getElem?_getD]
  by_cases h1 : j < a
  · rw [if_pos h1, List.getElem?_append_left (by rw [List.length_take]; omega), List.getElem?_take_of_lt h1]
  · rw [if_neg h1, List.getElem?_append_right (by rw [List.length_take]; omega)]
    have hl : (l.take a).length = a := by rw [List.length_take]; omega
    rw [hl]
    by_cases h2 : j = a
    · subst h2
      simp
    · rw [if_neg h2]
      have e : j - a = (j - a - 1) + 1 := by omega
      rw [e, List.getElem?_cons_succ, List.getElem?_drop]
      rw [show a + (j - a - 1) = j - 1 by omega]
/-! the base: what was told -/
abbrev sp_B : Type := Nat → Nat → Int
def sp_n (β : sp_B) : Nat := (β 0 0).toNat
def sp_mine (β : sp_B) (p c : Nat) : Bool := decide (β 5 (β 2 c).toNat = (p : Int))
def sp_cnts (β : sp_B) (p c : Nat) : Bool := sp_mine β p c && decide (β 4 c = 0)
def sp_raw (β : sp_B) (p : Nat) : List Nat := (sp_srt (β 1) (sp_n β)).filter (sp_cnts β p)
def sp_quick (β : sp_B) (l : List Nat) : Bool := decide (0 < β 6 3) && (List.range l.length).any (fun i => decide (i + (β 6 3).toNat < l.length) && decide (β 1 (l.getD (i + (β 6 3).toNat) 0) - β 1 (l.getD i 0) < β 6 4))
def sp_row (β : sp_B) (p : Nat) : List Nat := if sp_quick β (sp_raw β p) then [] else sp_raw β p
def sp_owned (β : sp_B) (p : Nat) : Nat := sp_ct (sp_mine β p) (sp_n β)
def sp_cut (β : sp_B) (a b : Nat) : Bool := decide (β 1 b - β 1 a > β 6 0) || (decide (β 6 1 = 1) && decide (β 1 a / 1440 ≠ β 1 b / 1440)) || decide (β 3 a = β 6 2)
def sp_ns (β : sp_B) (l : List Nat) : Nat → Nat
  | 0 => 0
  | j + 1 => sp_ns β l j + if (decide (j = 0) || sp_cut β (l.getD (j - 1) 0) (l.getD j 0)) then 1 else 0
def sp_birth (β : sp_B) (l : List Nat) : Int := match l.find? (fun c => decide (β 3 c = β 6 5)) with
  | none => -1
  | some c => β 1 c / 10080
def sp_came (β : sp_B) (l : List Nat) (w : Int) : Bool := l.any (fun c => decide (β 1 c / 10080 = w))
def sp_pl (l : List Nat) (c : Nat) : Int := if c ∈ l then (l.idxOf c : Int) else -1
theorem sp_raw_mem {β : sp_B} {p c : Nat} (h : c ∈ sp_raw β p) : c < sp_n β ∧ sp_mine β p c = true ∧ β 4 c = 0 := by
  obtain ⟨h1, h2⟩ := List.mem_filter.mp h
  unfold sp_cnts at h2
  simp only [Bool.and_eq_true, decide_eq_true_eq] at h2
  exact ⟨sp_srt_mem.mp h1, h2.1, h2.2⟩
theorem sp_row_sub {β : sp_B} {p c : Nat} (h : c ∈ sp_row β p) : c ∈ sp_raw β p := by
  unfold sp_row at h
  split at h
  · cases h
  · exact h
theorem sp_raw_len (β : sp_B) (p : Nat) : (sp_raw β p).length ≤ sp_n β := by
  unfold sp_raw
  rw [sp_srt_ct]
  exact sp_ct_le _
theorem sp_row_len (β : sp_B) (p : Nat) : (sp_row β p).length ≤ sp_n β := by
  unfold sp_row
  split
  · exact Nat.zero_le _
  · exact sp_raw_len β p
theorem sp_getD_mem {l : List Nat} {j : Nat} (h : j < l.length) : l.getD j 0 ∈ l := by
  rw [List.getD_eq_getElem?_getD, List.getElem?_eq_getElem h]
  simp
theorem sp_raw_nodup (β : sp_B) (p : Nat) : (sp_raw β p).Nodup := (sp_srt_nodup _).filter _
theorem sp_row_nodup (β : sp_B) (p : Nat) : (sp_row β p).Nodup := by
  unfold sp_row
  split
  · exact List.Pairwise.nil
  · exact sp_raw_nodup β p
theorem sp_pl_at {l : List Nat} (hn : l.Nodup) {j : Nat} (h : j < l.length) : sp_pl l (l.getD j 0) = (j : Int) := by
  unfold sp_pl
  rw [if_pos (sp_getD_mem h)]
  have e : l.getD j 0 = l[j] := by rw [List.getD_eq_getElem?_getD, List.getElem?_eq_getElem h]; rfl
  rw [e, hn.idxOf_getElem j h]
theorem sp_pl_no {l : List Nat} {c : Nat} (h : c ∉ l) : sp_pl l c = -1 := by unfold sp_pl; rw [if_neg h]
theorem sp_ns_le (β : sp_B) (l : List Nat) : ∀ j : Nat, sp_ns β l j ≤ j
  | 0 => Nat.le_refl 0
  | j + 1 => by
    have := sp_ns_le β l j
    rw [sp_ns]
    split <;> omega
theorem sp_ns_pos (β : sp_B) (l : List Nat) : ∀ j : Nat, 1 ≤ sp_ns β l (j + 1)
  | 0 => by simp [sp_ns]
  | j + 1 => by
    have := sp_ns_pos β l j
    rw [sp_ns]
    omega

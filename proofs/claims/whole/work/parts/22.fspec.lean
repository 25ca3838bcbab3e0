/-! ways through a funnel: the sets of steps that are done, and how they can be told by counts -/
def fz_need (st : Nat → Int) (m : Nat) (s : Int) : Nat := sp_ct (fun j => m.testBit j && decide (st j = s)) 4
def fz_cnt (xs : Nat → Int) (s : Int) : Nat → Nat
  | 0 => 0
  | n + 1 => fz_cnt xs s n + if xs (n + 1) = s then 1 else 0
def fz_tk (od : Bool) (sz : Nat) (st : Nat → Int) (x : Int) (S : Nat → Bool) (m : Nat) : Bool := (List.range sz).any (fun s => decide (st s = x) && m.testBit s && S (m - 2 ^ s) && (!od || decide (m = 2 ^ (s + 1) - 1)))
def fz_S (od : Bool) (sz : Nat) (st : Nat → Int) (bar : Int) (xs : Nat → Int) : Nat → Nat → Bool
  | 0, m => decide (m = 0)
  | i + 1, m => if i = 0 ∨ xs i = bar then fz_tk od sz st (xs i) (fz_S od sz st bar xs i) m else fz_S od sz st bar xs i m || fz_tk od sz st (xs i) (fz_S od sz st bar xs i) m
def fz_T (od : Bool) (sz : Nat) (st : Nat → Int) (bar : Int) (xs : Nat → Int) (i m : Nat) : Bool := fz_tk od sz st (xs i) (fz_S od sz st bar xs i) m
theorem fz_tk_iff {od : Bool} {sz : Nat} {st : Nat → Int} {x : Int} {S : Nat → Bool} {m : Nat} : fz_tk od sz st x S m = true ↔ ∃ s, s < sz ∧ st s = x ∧ m.testBit s = true ∧ S (m - 2 ^ s) = true ∧ (od = false ∨ m = 2 ^ (s + 1) - 1) := by
  unfold fz_tk
  rw [List.any_eq_true]
  constructor
  · rintro ⟨s, h1, h2⟩
    simp only [Bool.and_eq_true, decide_eq_true_eq, Bool.or_eq_true, Bool.not_eq_true'] at h2
    exact ⟨s, List.mem_range.mp h1, h2.1.1.1, h2.1.1.2, h2.1.2, h2.2⟩
  · rintro ⟨s, h1, h2, h3, h4, h5⟩
    refine ⟨s, List.mem_range.mpr h1, ?_⟩
    simp only [Bool.and_eq_true, decide_eq_true_eq, Bool.or_eq_true, Bool.not_eq_true']
    exact ⟨⟨⟨h2, h3⟩, h4⟩, h5⟩
theorem fz_bit_sub : ∀ m, m < 16 → ∀ a, a < 4 → ∀ j, j < 4 → m.testBit a = true → (m - 2 ^ a).testBit j = (m.testBit j && !decide (j = a)) := by decide
theorem fz_sub_lt {m a : Nat} (hm : m < 16) (_ : a < 4) (_ : m.testBit a = true) : m - 2 ^ a < 16 := Nat.lt_of_le_of_lt (Nat.sub_le _ _) hm
theorem fz_sub_bit {m a j : Nat} (hm : m < 16) (ha : a < 4) (h : m.testBit a = true) (hj : j < 4) : (m - 2 ^ a).testBit j = (m.testBit j && !decide (j = a)) := fz_bit_sub m hm a ha j hj h
theorem fz_ct_upd {p q : Nat → Bool} {a : Nat} (hp : p a = true) (hq : q a = false) (h : ∀ j, j ≠ a → q j = p j) : ∀ n, a < n → sp_ct p n = sp_ct q n + 1
  | 0, h0 => absurd h0 (Nat.not_lt_zero a)
  | n + 1, h0 => by
    rw [sp_ct, sp_ct]
    by_cases e : n = a
    · subst e
      rw [hp, hq]
      have : sp_ct p n = sp_ct q n := sp_ct_cong (fun c hc => (h c (by omega)).symm)
      simp [this]
    · have ih := fz_ct_upd hp hq h n (by omega)
      rw [h n e, ih]
      omega
theorem fz_need_sub {st : Nat → Int} {m a : Nat} (hm : m < 16) (ha : a < 4) (h : m.testBit a = true) (s : Int) : fz_need st m s = fz_need st (m - 2 ^ a) s + if st a = s then 1 else 0 := by
  unfold fz_need
  by_cases e : st a = s
  · rw [if_pos e]
    have h1 : sp_ct (fun j => (m - 2 ^ a).testBit j && decide (st j = s)) 4 = sp_ct (fun j => if j = a then false else (m.testBit j && decide (st j = s))) 4 := by
      apply sp_ct_cong
      intro c hc
      rw [fz_sub_bit hm ha h hc]
      by_cases q : c = a
      · simp [q]
      · simp [q]
    rw [h1]
    exact fz_ct_upd (a := a) (by simp [h, e]) (by simp) (fun j hj => by simp [hj]) 4 ha
  · rw [if_neg e]
    apply sp_ct_cong
    intro c hc
    rw [fz_sub_bit hm ha h hc]
    by_cases q : c = a
    · subst q; simp [e]
    · simp [q]
theorem fz_ct_pos {p : Nat → Bool} : ∀ {n : Nat}, 0 < sp_ct p n → ∃ j, j < n ∧ p j = true
  | 0, h => absurd h (Nat.not_lt_zero 0)
  | n + 1, h => by
    rw [sp_ct] at h
    by_cases hp : p n = true
    · exact ⟨n, by omega, hp⟩
    · rw [if_neg hp] at h
      obtain ⟨j, h1, h2⟩ := fz_ct_pos (n := n) (by omega)
      exact ⟨j, by omega, h2⟩
theorem fz_need_pos {st : Nat → Int} {m : Nat} {s : Int} (h : 0 < fz_need st m s) : ∃ b, b < 4 ∧ m.testBit b = true ∧ st b = s := by
  obtain ⟨j, h1, h2⟩ := fz_ct_pos h
  simp only [Bool.and_eq_true, decide_eq_true_eq] at h2
  exact ⟨j, h1, h2.1, h2.2⟩
theorem fz_zero_iff : ∀ m, m < 16 → (∀ j, j < 4 → m.testBit j = false) → m = 0 := by decide
theorem fz_pow_bit : ∀ a, a < 4 → (2 ^ a).testBit a = true ∧ 2 ^ a < 16 ∧ 2 ^ a - 2 ^ a = 0 := by decide
theorem fz_bit_lt : ∀ sz, sz < 5 → ∀ m, m < 2 ^ sz → ∀ j, j < 4 → m.testBit j = true → j < sz := by decide
theorem fz_comm (m : Nat) (hm : m < 16) (a : Nat) (ha : a < 4) (b : Nat) (hb : b < 4) (h1 : m.testBit a = true) (h2 : m.testBit b = true) (h3 : a ≠ b) : m - 2 ^ a - 2 ^ b = m - 2 ^ b - 2 ^ a ∧ (m - 2 ^ a).testBit b = true ∧ (m - 2 ^ b).testBit a = true := by
  refine ⟨Nat.sub_right_comm _ _ _, ?_, ?_⟩
  · rw [fz_sub_bit hm ha h1 hb, h2]; simp [Ne.symm h3]
  · rw [fz_sub_bit hm hb h2 ha, h1]; simp [h3]
/-- the way without an order, by counts -/
def fz_ok (sz : Nat) (st : Nat → Int) (bar : Int) (xs : Nat → Int) (n m : Nat) : Prop := ∃ a, a < sz ∧ m.testBit a = true ∧ st a = xs 0 ∧ ∀ s, fz_need st (m - 2 ^ a) s ≤ fz_cnt xs s n ∧ (s = bar → fz_need st (m - 2 ^ a) s = fz_cnt xs s n)
theorem fz_U {sz : Nat} {st : Nat → Int} {bar : Int} {xs : Nat → Int} (hsz : sz ≤ 4) : ∀ n m, m < 2 ^ sz → (fz_S false sz st bar xs (n + 1) m = true ↔ fz_ok sz st bar xs n m)
  | 0, m, hm => by
    have h16 : m < 16 := Nat.lt_of_lt_of_le hm (Nat.pow_le_pow_right (by decide) hsz)
    rw [fz_S, if_pos (Or.inl rfl), fz_tk_iff]
    constructor
    · rintro ⟨s, h1, h2, h3, h4, -⟩
      simp only [fz_S, decide_eq_true_eq] at h4
      refine ⟨s, h1, h3, h2, fun s' => ?_⟩
      rw [h4]
      have e : fz_need st 0 s' = 0 := by simp [fz_need, sp_ct]
      rw [e]
      simp [fz_cnt]
    · rintro ⟨a, h1, h2, h3, h4⟩
      refine ⟨a, h1, h3, h2, ?_, Or.inl rfl⟩
      simp only [fz_S, decide_eq_true_eq]
      apply fz_zero_iff _ (fz_sub_lt h16 (by omega) h2)
      intro j hj
      cases hb : (m - 2 ^ a).testBit j with
      | false => rfl
      | true =>
        have h5 := (h4 (st j)).1
        simp only [fz_cnt] at h5
        have h6 := fz_need_sub (st := st) (fz_sub_lt h16 (by omega) h2) hj hb (st j)
        simp at h6
        omega
  | n + 1, m, hm => by
    have h16 : m < 16 := Nat.lt_of_lt_of_le hm (Nat.pow_le_pow_right (by decide) hsz)
    have ih := fz_U (sz := sz) (st := st) (bar := bar) (xs := xs) hsz n
    have hT : fz_tk false sz st (xs (n + 1)) (fz_S false sz st bar xs (n + 1)) m = true ↔ ∃ b, b < sz ∧ st b = xs (n + 1) ∧ m.testBit b = true ∧ fz_ok sz st bar xs n (m - 2 ^ b) := by
      rw [fz_tk_iff]
      constructor
      · rintro ⟨b, h1, h2, h3, h4, -⟩
        exact ⟨b, h1, h2, h3, (ih _ (Nat.lt_of_le_of_lt (Nat.sub_le _ _) hm)).mp h4⟩
      · rintro ⟨b, h1, h2, h3, h4⟩
        exact ⟨b, h1, h2, h3, (ih _ (Nat.lt_of_le_of_lt (Nat.sub_le _ _) hm)).mpr h4, Or.inl rfl⟩
    -- what a step more gives
    have up : ∀ b, b < sz → st b = xs (n + 1) → m.testBit b = true → fz_ok sz st bar xs n (m - 2 ^ b) → fz_ok sz st bar xs (n + 1) m := by
      rintro b h1 h2 h3 ⟨a, g1, g2, g3, g4⟩
      have hab : a ≠ b := by
        rintro rfl
        rw [fz_sub_bit h16 (by omega) h3 (by omega)] at g2
        simp at g2
      have ha : m.testBit a = true := by
        rw [fz_sub_bit h16 (by omega) h3 (by omega)] at g2
        simp at g2
        exact g2.1
      obtain ⟨e1, e2, e3⟩ := fz_comm m h16 a (by omega) b (by omega) ha h3 hab
      refine ⟨a, g1, ha, g3, fun s => ?_⟩
      have h5 := g4 s
      have h6 := fz_need_sub (st := st) (fz_sub_lt h16 (by omega) ha) (by omega : b < 4) e2 s
      rw [e1, h2] at h6
      rw [fz_cnt]
      constructor
      · omega
      · intro q
        have := h5.2 q
        omega
    have down : ∀ a, a < sz → m.testBit a = true → st a = xs 0 → (∀ s, fz_need st (m - 2 ^ a) s ≤ fz_cnt xs s (n + 1) ∧ (s = bar → fz_need st (m - 2 ^ a) s = fz_cnt xs s (n + 1))) → fz_need st (m - 2 ^ a) (xs (n + 1)) = fz_cnt xs (xs (n + 1)) n + 1 → ∃ b, b < sz ∧ st b = xs (n + 1) ∧ m.testBit b = true ∧ fz_ok sz st bar xs n (m - 2 ^ b) := by
      intro a g1 g2 g3 g4 g5
      obtain ⟨b, h1, h2, h3⟩ := fz_need_pos (st := st) (m := m - 2 ^ a) (s := xs (n + 1)) (by omega)
      have hb : m.testBit b = true ∧ b ≠ a := by
        rw [fz_sub_bit h16 (by omega) g2 h1] at h2
        simp at h2
        exact h2
      obtain ⟨e1, e2, e3⟩ := fz_comm m h16 a (by omega) b h1 g2 hb.1 (fun q => hb.2 q.symm)
      have hbs : b < sz := fz_bit_lt sz (by omega) m hm b h1 hb.1
      refine ⟨b, hbs, h3, hb.1, a, g1, e3, g3, fun s => ?_⟩
      have h5 := g4 s
      have h6 := fz_need_sub (st := st) (fz_sub_lt h16 (by omega) g2) h1 e2 s
      rw [e1, h3] at h6
      rw [fz_cnt] at h5
      constructor
      · by_cases q : xs (n + 1) = s
        · rw [q] at g5
          rw [if_pos q] at h5 h6
          omega
        · rw [if_neg q] at h5 h6
          omega
      · intro q
        have := h5.2 q
        omega
    rw [fz_S]
    by_cases hbar : n + 1 = 0 ∨ xs (n + 1) = bar
    · rw [if_pos hbar, hT]
      have hb : xs (n + 1) = bar := by omega
      constructor
      · rintro ⟨b, h1, h2, h3, h4⟩
        exact up b h1 h2 h3 h4
      · rintro ⟨a, g1, g2, g3, g4⟩
        refine down a g1 g2 g3 g4 ?_
        have := (g4 (xs (n + 1))).2 hb
        rw [this, fz_cnt, if_pos rfl]
    · rw [if_neg hbar, Bool.or_eq_true, hT, ih m hm]
      constructor
      · rintro (⟨a, g1, g2, g3, g4⟩ | ⟨b, h1, h2, h3, h4⟩)
        · refine ⟨a, g1, g2, g3, fun s => ?_⟩
          have h5 := g4 s
          rw [fz_cnt]
          constructor
          · omega
          · intro q
            have h6 := h5.2 q
            rw [if_neg (fun z => hbar (Or.inr (by rw [z, q])))]
            omega
        · exact up b h1 h2 h3 h4
      · rintro ⟨a, g1, g2, g3, g4⟩
        by_cases q : fz_need st (m - 2 ^ a) (xs (n + 1)) ≤ fz_cnt xs (xs (n + 1)) n
        · left
          refine ⟨a, g1, g2, g3, fun s => ?_⟩
          have h5 := g4 s
          rw [fz_cnt] at h5
          by_cases q2 : xs (n + 1) = s
          · rw [← q2] at h5 ⊢
            refine ⟨q, fun q3 => absurd (Or.inr q3) hbar⟩
          · rw [if_neg q2] at h5
            exact ⟨by omega, fun q3 => by have := h5.2 q3; omega⟩
        · right
          refine down a g1 g2 g3 g4 ?_
          have h5 := (g4 (xs (n + 1))).1
          rw [fz_cnt, if_pos rfl] at h5
          omega
/-- the way in order: prefixes -/
def fz_sb (st xs : Nat → Int) : Nat → Nat → Bool
  | 0, _ => true
  | _ + 1, 0 => false
  | p + 1, n + 1 => fz_sb st xs (p + 1) n || (decide (st (p + 1) = xs (n + 1)) && fz_sb st xs p n)
def fz_nst (st : Nat → Int) (s : Int) : Nat → Nat
  | 0 => 0
  | p + 1 => fz_nst st s p + if st (p + 1) = s then 1 else 0
def fz_g (st xs : Nat → Int) (M : Nat) : Nat → Nat
  | 0 => 0
  | n + 1 => if fz_g st xs M n < M ∧ xs (n + 1) = st (fz_g st xs M n + 1) then fz_g st xs M n + 1 else fz_g st xs M n
theorem fz_g_le (st xs : Nat → Int) (M : Nat) : ∀ n, fz_g st xs M n ≤ M
  | 0 => Nat.zero_le M
  | n + 1 => by
    have := fz_g_le st xs M n
    rw [fz_g]
    split <;> omega
theorem fz_sb_g {st xs : Nat → Int} {M : Nat} : ∀ n p, p ≤ M → (fz_sb st xs p n = true ↔ p ≤ fz_g st xs M n)
  | 0, 0, _ => by simp [fz_sb]
  | 0, p + 1, _ => by simp [fz_sb, fz_g]
  | n + 1, 0, _ => by simp [fz_sb]
  | n + 1, p + 1, hp => by
    have i1 := fz_sb_g (st := st) (xs := xs) (M := M) n (p + 1) hp
    have i2 := fz_sb_g (st := st) (xs := xs) (M := M) n p (by omega)
    rw [fz_sb, Bool.or_eq_true, Bool.and_eq_true, decide_eq_true_eq, i1, i2, fz_g]
    constructor
    · rintro (h | ⟨h1, h2⟩)
      · split <;> omega
      · by_cases e : p + 1 ≤ fz_g st xs M n
        · split <;> omega
        · have e2 : fz_g st xs M n = p := by omega
          rw [e2, if_pos ⟨by omega, h1.symm⟩]
          omega
    · intro h
      split at h
      · rename_i hc
        by_cases e : p + 1 ≤ fz_g st xs M n
        · exact Or.inl e
        · have e2 : fz_g st xs M n = p := by omega
          rw [e2] at hc
          exact Or.inr ⟨hc.2.symm, by omega⟩
      · exact Or.inl h
theorem fz_sb_less {st xs : Nat → Int} : ∀ n p, fz_sb st xs (p + 1) n = true → fz_sb st xs p n = true
  | _, 0, _ => by simp [fz_sb]
  | 0, p + 1, h => by simp [fz_sb] at h
  | n + 1, p + 1, h => by
    rw [fz_sb, Bool.or_eq_true, Bool.and_eq_true] at h ⊢
    rcases h with h | ⟨_, h⟩
    · exact Or.inl (fz_sb_less n (p + 1) h)
    · exact Or.inl h
theorem fz_sb_cnt {st xs : Nat → Int} : ∀ n p, fz_sb st xs p n = true → ∀ s, fz_nst st s p ≤ fz_cnt xs s n
  | _, 0, _, s => by simp [fz_nst]
  | 0, p + 1, h, s => by simp [fz_sb] at h
  | n + 1, p + 1, h, s => by
    rw [fz_sb, Bool.or_eq_true, Bool.and_eq_true, decide_eq_true_eq] at h
    rw [fz_cnt]
    rcases h with h | ⟨h1, h⟩
    · have := fz_sb_cnt n (p + 1) h s
      omega
    · have := fz_sb_cnt n p h s
      rw [fz_nst, h1]
      omega
theorem fz_pre1 : ∀ j, j < 5 → 1 ≤ j → (2 ^ j - 1).testBit (j - 1) = true := by decide
theorem fz_pre2 : ∀ j, j < 5 → 1 ≤ j → 2 ^ j - 1 - 2 ^ (j - 1) = 2 ^ (j - 1) - 1 := by decide
theorem fz_pre3 : ∀ j, j < 5 → ∀ s, s < 4 → 1 ≤ j → 2 ^ j - 1 = 2 ^ (s + 1) - 1 → s = j - 1 := by decide
theorem fz_pre4 : ∀ j, j < 5 → 1 ≤ j → 2 ^ j - 1 = 2 ^ (j - 1 + 1) - 1 := by decide
theorem fz_pre (j : Nat) (h1 : 1 ≤ j) (h5 : j < 5) : (2 ^ j - 1).testBit (j - 1) = true ∧ 2 ^ j - 1 - 2 ^ (j - 1) = 2 ^ (j - 1) - 1 ∧ (∀ s, s < 4 → 2 ^ j - 1 = 2 ^ (s + 1) - 1 → s = j - 1) ∧ 2 ^ j - 1 = 2 ^ (j - 1 + 1) - 1 := ⟨fz_pre1 j h5 h1, fz_pre2 j h5 h1, fun s hs => fz_pre3 j h5 s hs h1, fz_pre4 j h5 h1⟩
theorem fz_tk_pre {sz : Nat} {st : Nat → Int} {x : Int} {S : Nat → Bool} (hsz : sz ≤ 4) {j : Nat} (h1 : 1 ≤ j) (hj : j ≤ sz) : fz_tk true sz st x S (2 ^ j - 1) = true ↔ st (j - 1) = x ∧ S (2 ^ (j - 1) - 1) = true := by
  obtain ⟨a1, a2, a3, a4⟩ := fz_pre j h1 (by omega)
  rw [fz_tk_iff]
  constructor
  · rintro ⟨s, g1, g2, g3, g4, g5⟩
    have e : s = j - 1 := by
      rcases g5 with q | q
      · cases q
      · exact a3 s (by omega) q
    rw [e] at g2 g4
    rw [a2] at g4
    exact ⟨g2, g4⟩
  · rintro ⟨g1, g2⟩
    exact ⟨j - 1, by omega, g1, a1, by rw [a2]; exact g2, Or.inr a4⟩
theorem fz_tk_zero {od : Bool} {sz : Nat} {st : Nat → Int} {x : Int} {S : Nat → Bool} : fz_tk od sz st x S 0 = false := by
  rw [← Bool.not_eq_true, fz_tk_iff]
  rintro ⟨s, -, -, h, -⟩
  simp at h
theorem fz_S_zero {od : Bool} {sz : Nat} {st : Nat → Int} {bar : Int} {xs : Nat → Int} : ∀ n, fz_S od sz st bar xs (n + 1) 0 = false
  | 0 => by rw [fz_S, if_pos (Or.inl rfl), fz_tk_zero]
  | n + 1 => by
    rw [fz_S, fz_tk_zero, fz_S_zero n]
    split <;> rfl
theorem fz_O {sz : Nat} {st : Nat → Int} {bar : Int} {xs : Nat → Int} (hsz : sz ≤ 4) : ∀ n j, 1 ≤ j → j ≤ sz → (fz_S true sz st bar xs (n + 1) (2 ^ j - 1) = true ↔ (st 0 = xs 0 ∧ fz_sb st xs (j - 1) n = true ∧ fz_nst st bar (j - 1) = fz_cnt xs bar n))
  | 0, j, h1, hj => by
    rw [fz_S, if_pos (Or.inl rfl), fz_tk_pre hsz h1 hj]
    by_cases e : j = 1
    · subst e
      simp [fz_S, fz_sb, fz_nst, fz_cnt]
    · have e1 : (2 : Nat) ^ (j - 1) - 1 ≠ 0 := by
        have : 2 ≤ 2 ^ (j - 1) := Nat.le_trans (show 2 ≤ 2 ^ 1 by decide) (Nat.pow_le_pow_right (by decide) (by omega))
        omega
      have e2 : j - 1 = (j - 2) + 1 := by omega
      simp only [fz_S, decide_eq_true_eq]
      constructor
      · intro q; exact absurd q.2 e1
      · rintro ⟨-, q, -⟩
        rw [e2] at q
        simp [fz_sb] at q
  | n + 1, j, h1, hj => by
    have ih := fz_O (sz := sz) (st := st) (bar := bar) (xs := xs) hsz n
    have hT : fz_tk true sz st (xs (n + 1)) (fz_S true sz st bar xs (n + 1)) (2 ^ j - 1) = true ↔ 2 ≤ j ∧ st (j - 1) = xs (n + 1) ∧ st 0 = xs 0 ∧ fz_sb st xs (j - 2) n = true ∧ fz_nst st bar (j - 2) = fz_cnt xs bar n := by
      rw [fz_tk_pre hsz h1 hj]
      by_cases e : j = 1
      · subst e
        simp [fz_S_zero]
      · rw [ih (j - 1) (by omega) (by omega)]
        rw [show j - 1 - 1 = j - 2 by omega]
        constructor
        · rintro ⟨a, b⟩
          exact ⟨by omega, a, b⟩
        · rintro ⟨-, a, b⟩
          exact ⟨a, b⟩
    rw [fz_S]
    have hsb : 2 ≤ j → (fz_sb st xs (j - 1) (n + 1) = true ↔ fz_sb st xs (j - 1) n = true ∨ (st (j - 1) = xs (n + 1) ∧ fz_sb st xs (j - 2) n = true)) := by
      intro h2
      rw [show j - 1 = (j - 2) + 1 by omega, fz_sb, Bool.or_eq_true, Bool.and_eq_true, decide_eq_true_eq]
    have hnst : 2 ≤ j → fz_nst st bar (j - 1) = fz_nst st bar (j - 2) + if st (j - 1) = bar then 1 else 0 := by
      intro h2
      rw [show j - 1 = (j - 2) + 1 by omega, fz_nst]
    by_cases hbar : n + 1 = 0 ∨ xs (n + 1) = bar
    · rw [if_pos hbar, hT]
      have hb : xs (n + 1) = bar := by omega
      rw [fz_cnt, if_pos hb]
      constructor
      · rintro ⟨h2, g1, g2, g3, g4⟩
        refine ⟨g2, (hsb h2).mpr (Or.inr ⟨g1, g3⟩), ?_⟩
        rw [hnst h2, if_pos (by rw [g1]; exact hb), g4]
      · rintro ⟨g2, g3, g4⟩
        have h2 : 2 ≤ j := by
          by_cases e : j = 1
          · subst e; simp [fz_nst] at g4
          · omega
        by_cases e : st (j - 1) = bar
        · rw [hnst h2, if_pos e] at g4
          refine ⟨h2, by rw [e, hb], g2, ?_, by omega⟩
          rcases (hsb h2).mp g3 with q | q
          · have : fz_sb st xs ((j - 2) + 1) n = true := by rw [show j - 2 + 1 = j - 1 by omega]; exact q
            exact fz_sb_less n (j - 2) this
          · exact q.2
        · exfalso
          rcases (hsb h2).mp g3 with q | q
          · have := fz_sb_cnt n (j - 1) q bar
            omega
          · exact e (by rw [q.1, hb])
    · rw [if_neg hbar, Bool.or_eq_true, hT, ih j h1 hj]
      have hb : ¬ xs (n + 1) = bar := fun q => hbar (Or.inr q)
      rw [fz_cnt, if_neg hb]
      constructor
      · rintro (⟨g1, g2, g3⟩ | ⟨h2, g1, g2, g3, g4⟩)
        · refine ⟨g1, ?_, by omega⟩
          by_cases e : j = 1
          · subst e; simp [fz_sb]
          · exact (hsb (by omega)).mpr (Or.inl g2)
        · refine ⟨g2, (hsb h2).mpr (Or.inr ⟨g1, g3⟩), ?_⟩
          rw [hnst h2, if_neg (by rw [g1]; exact hb), g4]
      · rintro ⟨g1, g2, g3⟩
        by_cases e : j = 1
        · left
          subst e
          exact ⟨g1, by simp [fz_sb], by simpa using g3⟩
        · have h2 : 2 ≤ j := by omega
          rcases (hsb h2).mp g2 with q | q
          · exact Or.inl ⟨g1, q, by omega⟩
          · right
            refine ⟨h2, q.1, g1, q.2, ?_⟩
            rw [hnst h2, if_neg (by rw [q.1]; exact hb)] at g3
            omega

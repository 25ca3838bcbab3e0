def fS (β : sp_B) (f : Nat) (l : List Nat) (a i m : Nat) : Bool := fz_S (decide (β 8 f = 1)) (β 7 f).toNat (fun j => β 11 (4 * f + j)) (β 10 f) (fun i => β 3 (l.getD (a + i) 0)) i m
def fT (β : sp_B) (f : Nat) (l : List Nat) (a i m : Nat) : Bool := fz_T (decide (β 8 f = 1)) (β 7 f).toNat (fun j => β 11 (4 * f + j)) (β 10 f) (fun i => β 3 (l.getD (a + i) 0)) i m
def fWb (β : sp_B) (f : Nat) (l : List Nat) (a i : Nat) : Bool := (List.range (i + 1)).all (fun i' => decide (a + i' < l.length) && decide (β 1 (l.getD (a + i') 0) - β 1 (l.getD a 0) ≤ β 9 f))
def fE (β : sp_B) (f : Nat) (l : List Nat) (k a : Nat) : Option Nat := (List.range l.length).find? (fun i => fWb β f l a i && fT β f l a i (2 ^ k - 1))
theorem fW_iff {β : sp_B} {f : Nat} {l : List Nat} {a i : Nat} : fWb β f l a i = true ↔ ∀ i', i' ≤ i → a + i' < l.length ∧ β 1 (l.getD (a + i') 0) - β 1 (l.getD a 0) ≤ β 9 f := by
  unfold fWb
  rw [List.all_eq_true]
  constructor
  · intro h i' hi
    have := h i' (List.mem_range.mpr (by omega))
    simpa using this
  · intro h i' hi
    have := h i' (by have := List.mem_range.mp hi; omega)
    simpa using this
theorem fW_less {β : sp_B} {f : Nat} {l : List Nat} {a i j : Nat} (h : fWb β f l a i = true) (hj : j ≤ i) : fWb β f l a j = true := by
  rw [fW_iff] at h ⊢
  exact fun i' hi => h i' (by omega)
theorem fW_succ {β : sp_B} {f : Nat} {l : List Nat} {a i : Nat} (h : ∀ j, j < i → fWb β f l a j = true) (h1 : a + i < l.length) (h2 : β 1 (l.getD (a + i) 0) - β 1 (l.getD a 0) ≤ β 9 f) : fWb β f l a i = true := by
  rw [fW_iff]
  intro i' hi
  by_cases e : i' = i
  · subst e; exact ⟨h1, h2⟩
  · exact fW_iff.mp (h i' (by omega)) i' (Nat.le_refl _)
theorem fW_stop {β : sp_B} {f : Nat} {l : List Nat} {a i j : Nat} (h : ¬ (a + i < l.length ∧ β 1 (l.getD (a + i) 0) - β 1 (l.getD a 0) ≤ β 9 f)) (hj : fWb β f l a j = true) : j < i := by
  rcases Nat.lt_or_ge j i with q | q
  · exact q
  · exact absurd (fW_iff.mp hj i q) h
theorem fE_some {β : sp_B} {f : Nat} {l : List Nat} {k a i : Nat} (h1 : fWb β f l a i = true) (h2 : fT β f l a i (2 ^ k - 1) = true) (h3 : ∀ j, j < i → fT β f l a j (2 ^ k - 1) = false) : fE β f l k a = some i := by
  have hi : i < l.length := by have := (fW_iff.mp h1 i (Nat.le_refl i)).1; omega
  have e : ∀ j, j < l.length → (List.range l.length).getD j 0 = j := fun j hj => by simp [List.getD_eq_getElem?_getD, hj]
  unfold fE
  rw [sp_find_some (i := i) (by simpa using hi) (by rw [e i hi, h1, h2]; rfl) (fun j hj => by rw [e j (by omega), h3 j hj, Bool.and_false]), e i hi]
theorem fE_none {β : sp_B} {f : Nat} {l : List Nat} {k a : Nat} (h : ∀ i, fWb β f l a i = true → fT β f l a i (2 ^ k - 1) = false) : fE β f l k a = none := by
  unfold fE
  rw [List.find?_eq_none]
  intro i _
  simp only [Bool.and_eq_true, not_and]
  intro h1
  rw [h i h1]
  simp
theorem fE_iff {β : sp_B} {f : Nat} {l : List Nat} {k a : Nat} : (fE β f l k a).isSome = true ↔ ∃ i, fWb β f l a i = true ∧ fT β f l a i (2 ^ k - 1) = true := by
  constructor
  · intro h
    obtain ⟨i, hi⟩ := Option.isSome_iff_exists.mp h
    have := List.find?_some hi
    simp only [Bool.and_eq_true] at this
    exact ⟨i, this⟩
  · rintro ⟨i, h1, h2⟩
    cases hE : fE β f l k a with
    | some _ => rfl
    | none =>
      unfold fE at hE
      rw [List.find?_eq_none] at hE
      have hi := (fW_iff.mp h1 i (Nat.le_refl i)).1
      have := hE i (List.mem_range.mpr (by omega))
      simp [h1, h2] at this
def fDk (β : sp_B) (f : Nat) (l : List Nat) (a : Nat) : Nat → Nat
  | 0 => 0
  | k + 1 => if (fE β f l (k + 1) a).isSome then k + 1 else fDk β f l a k
def fD (β : sp_B) (f : Nat) (l : List Nat) (a : Nat) : Nat := fDk β f l a (β 7 f).toNat
theorem fDk_eq {β : sp_B} {f : Nat} {l : List Nat} {a d : Nat} : ∀ n, d ≤ n → (∀ k, 1 ≤ k → k ≤ n → (fE β f l k a).isSome = true → k ≤ d) → (0 < d → (fE β f l d a).isSome = true) → fDk β f l a n = d
  | 0, h, _, _ => by rw [fDk]; omega
  | n + 1, h, h2, h3 => by
    rw [fDk]
    by_cases e : (fE β f l (n + 1) a).isSome = true
    · rw [if_pos e]
      have := h2 (n + 1) (by omega) (Nat.le_refl _) e
      omega
    · rw [if_neg e]
      have hd : d ≠ n + 1 := by
        rintro rfl
        exact e (h3 (by omega))
      exact fDk_eq n (by omega) (fun k q1 q2 => h2 k q1 (by omega)) h3
theorem fDk_le {β : sp_B} {f : Nat} {l : List Nat} {a : Nat} : ∀ n, fDk β f l a n ≤ n
  | 0 => Nat.le_refl 0
  | n + 1 => by
    have := fDk_le (β := β) (f := f) (l := l) (a := a) n
    rw [fDk]
    split <;> omega
theorem fDk_ge {β : sp_B} {f : Nat} {l : List Nat} {a k : Nat} (h : (fE β f l k a).isSome = true) : ∀ n, 1 ≤ k → k ≤ n → k ≤ fDk β f l a n
  | 0, h1, h2 => by omega
  | n + 1, h1, h2 => by
    rw [fDk]
    by_cases e : (fE β f l (n + 1) a).isSome = true
    · rw [if_pos e]; exact h2
    · rw [if_neg e]
      have : k ≠ n + 1 := by rintro rfl; exact e h
      exact fDk_ge h n h1 (by omega)
theorem fDk_is {β : sp_B} {f : Nat} {l : List Nat} {a : Nat} : ∀ n, 0 < fDk β f l a n → (fE β f l (fDk β f l a n) a).isSome = true
  | 0, h => absurd h (Nat.lt_irrefl 0)
  | n + 1, h => by
    rw [fDk] at h ⊢
    by_cases e : (fE β f l (n + 1) a).isSome = true
    · rw [if_pos e]; exact e
    · rw [if_neg e] at h ⊢
      exact fDk_is n h
def fRk (β : sp_B) (f : Nat) (l : List Nat) : Nat → Nat
  | 0 => 0
  | k + 1 => if (List.range l.length).any (fun a => (fE β f l (k + 1) a).isSome) then k + 1 else fRk β f l k
def fR (β : sp_B) (f : Nat) (l : List Nat) : Nat := fRk β f l (β 7 f).toNat
theorem fR_any {β : sp_B} {f : Nat} {l : List Nat} {k : Nat} : (List.range l.length).any (fun a => (fE β f l k a).isSome) = true ↔ ∃ a, a < l.length ∧ (fE β f l k a).isSome = true := by
  rw [List.any_eq_true]
  constructor
  · rintro ⟨a, h1, h2⟩; exact ⟨a, List.mem_range.mp h1, h2⟩
  · rintro ⟨a, h1, h2⟩; exact ⟨a, List.mem_range.mpr h1, h2⟩
theorem fRk_eq {β : sp_B} {f : Nat} {l : List Nat} {d : Nat} : ∀ n, d ≤ n → (∀ k a, 1 ≤ k → k ≤ n → a < l.length → (fE β f l k a).isSome = true → k ≤ d) → (0 < d → ∃ a, a < l.length ∧ (fE β f l d a).isSome = true) → fRk β f l n = d
  | 0, h, _, _ => by rw [fRk]; omega
  | n + 1, h, h2, h3 => by
    rw [fRk]
    by_cases e : (List.range l.length).any (fun a => (fE β f l (n + 1) a).isSome) = true
    · rw [if_pos e]
      obtain ⟨a, g1, g2⟩ := fR_any.mp e
      have := h2 (n + 1) a (by omega) (Nat.le_refl _) g1 g2
      omega
    · rw [if_neg e]
      have hd : d ≠ n + 1 := by
        rintro rfl
        exact e (fR_any.mpr (h3 (by omega)))
      exact fRk_eq n (by omega) (fun k a q1 q2 => h2 k a q1 (by omega)) h3
theorem fRk_le {β : sp_B} {f : Nat} {l : List Nat} : ∀ n, fRk β f l n ≤ n
  | 0 => Nat.le_refl 0
  | n + 1 => by
    have := fRk_le (β := β) (f := f) (l := l) n
    rw [fRk]
    split <;> omega
def fMay (β : sp_B) (f : Nat) (l : List Nat) (w : List (Nat × Nat)) (j : Nat) : Bool := match w.getLast? with
  | none => true
  | some q => decide (β 1 (l.getD j 0) - β 1 (l.getD q.1 0) > β 9 f)
def fw (β : sp_B) (f : Nat) (l : List Nat) : Nat → List (Nat × Nat)
  | 0 => []
  | j + 1 => match (if fMay β f l (fw β f l j) j then fE β f l (β 7 f).toNat j else none) with
    | none => fw β f l j
    | some i => fw β f l j ++ [(j, j + i)]
theorem fw_no {β : sp_B} {f : Nat} {l : List Nat} {j : Nat} (h : fMay β f l (fw β f l j) j = false ∨ fE β f l (β 7 f).toNat j = none) : fw β f l (j + 1) = fw β f l j := by
  rw [fw]
  rcases h with h | h
  · rw [h]; rfl
  · rw [h]; split <;> simp_all
theorem fw_yes {β : sp_B} {f : Nat} {l : List Nat} {j i : Nat} (h : fMay β f l (fw β f l j) j = true) (h2 : fE β f l (β 7 f).toNat j = some i) : fw β f l (j + 1) = fw β f l j ++ [(j, j + i)] := by
  rw [fw, h, h2]; rfl
theorem fw_len {β : sp_B} {f : Nat} {l : List Nat} : ∀ j, (fw β f l j).length ≤ j
  | 0 => Nat.le_refl 0
  | j + 1 => by
    have := fw_len (β := β) (f := f) (l := l) j
    rw [fw]
    split
    · omega
    · rw [List.length_append]; simp; omega
theorem fw_mem {β : sp_B} {f : Nat} {l : List Nat} : ∀ j, j ≤ l.length → ∀ q ∈ fw β f l j, q.1 < j ∧ q.2 < l.length
  | 0, _, q, hq => by simp [fw] at hq
  | j + 1, hj, q, hq => by
    have ih := fw_mem (β := β) (f := f) (l := l) j (by omega)
    cases hE : (if fMay β f l (fw β f l j) j then fE β f l (β 7 f).toNat j else none) with
    | none =>
      rw [fw, hE] at hq
      have := ih q hq
      omega
    | some i =>
      rw [fw, hE] at hq
      rcases List.mem_append.mp hq with h | h
      · have := ih q h
        omega
      · have e : q = (j, j + i) := by simpa using h
        have h1 : fE β f l (β 7 f).toNat j = some i := by
          split at hE
          · exact hE
          · cases hE
        have h2 := List.find?_some h1
        simp only [Bool.and_eq_true] at h2
        have h3 := (fW_iff.mp h2.1 i (Nat.le_refl i)).1
        rw [e]
        exact ⟨by show j < j + 1; omega, h3⟩
theorem fT_zero {β : sp_B} {f : Nat} {l : List Nat} {a i : Nat} : fT β f l a i (2 ^ 0 - 1) = false := fz_tk_zero
theorem fz_tk_cong {od : Bool} {sz : Nat} {st : Nat → Int} {x : Int} {S S' : Nat → Bool} {m : Nat} (hm : m < 16) (h : ∀ m', m' < 16 → S m' = S' m') : fz_tk od sz st x S m = fz_tk od sz st x S' m := by
  unfold fz_tk
  congr 1
  funext s
  rw [h (m - 2 ^ s) (Nat.lt_of_le_of_lt (Nat.sub_le _ _) hm)]
theorem fz_tk_false {od : Bool} {sz : Nat} {st : Nat → Int} {x : Int} {S : Nat → Bool} {m : Nat} (hm : m < 16) (h : ∀ m', m' < 16 → S m' = false) : fz_tk od sz st x S m = false := by
  rw [← Bool.not_eq_true, fz_tk_iff]
  rintro ⟨s, -, -, -, g, -⟩
  rw [h _ (Nat.lt_of_le_of_lt (Nat.sub_le _ _) hm)] at g
  cases g
theorem fS_dead {β : sp_B} {f : Nat} {l : List Nat} {a n : Nat} (h : ∀ m, m < 16 → fS β f l a n m = false) : ∀ d m, m < 16 → fS β f l a (n + d) m = false
  | 0, m, hm => h m hm
  | d + 1, m, hm => by
    have ih := fS_dead h d
    show fS β f l a (n + d + 1) m = false
    unfold fS at ih ⊢
    rw [fz_S, fz_tk_false hm ih, ih m hm]
    split <;> rfl
theorem fT_dead {β : sp_B} {f : Nat} {l : List Nat} {a n i m : Nat} (h : ∀ m, m < 16 → fS β f l a n m = false) (hi : n ≤ i) (hm : m < 16) : fT β f l a i m = false := by
  have := fS_dead h (i - n)
  rw [show n + (i - n) = i by omega] at this
  exact fz_tk_false hm this
theorem fz_tk_succ {od : Bool} {n : Nat} {st : Nat → Int} {x : Int} {S : Nat → Bool} {m : Nat} : fz_tk od (n + 1) st x S m = (fz_tk od n st x S m || (decide (st n = x) && m.testBit n && S (m - 2 ^ n) && (!od || decide (m = 2 ^ (n + 1) - 1)))) := by
  unfold fz_tk
  rw [List.range_succ, List.any_append]
  simp
-- bits
theorem sd_nI {x : Int32} {a : Nat} (h : x.toInt = (a : Int)) : x = nI a := by
  rw [sd_ofInt h]; rfl
theorem sd_fand (a b : Nat) : nI a &&& nI b = nI (a &&& b) := by
  apply Int32.toBitVec_inj.1
  show BitVec.ofNat 32 a &&& BitVec.ofNat 32 b = BitVec.ofNat 32 (a &&& b)
  apply BitVec.eq_of_getLsbD_eq
  intro i hi
  simp [hi]
theorem sd_for (a b : Nat) : nI a ||| nI b = nI (a ||| b) := by
  apply Int32.toBitVec_inj.1
  show BitVec.ofNat 32 a ||| BitVec.ofNat 32 b = BitVec.ofNat 32 (a ||| b)
  apply BitVec.eq_of_getLsbD_eq
  intro i hi
  simp [hi]
theorem sd_shl_one : ∀ s, s < 5 → (nI 1 <<< (nI s &&& 31)) = nI (2 ^ s) := by decide
theorem sd_smod : ∀ s, s < 4 → ((nI (2 ^ s) &&& 31).toBitVec.smod 32).toNat = 2 ^ s := by decide
def fz_fit (od : Bool) (s : Nat) : Nat := if od then ([1, 2, 8, 128] : List Nat).getD s 0 else ([21845, 13107, 3855, 255] : List Nat).getD s 0
theorem fz_fit_bound : ∀ od : Bool, ∀ s, s < 4 → fz_fit od s * 2 ^ 2 ^ s < 65536 := by decide
theorem fz_fit_bit : ∀ od : Bool, ∀ s, s < 4 → ∀ m, m < 16 → (decide (2 ^ s ≤ m) && (fz_fit od s).testBit (m - 2 ^ s)) = (m.testBit s && (!od || decide (m = 2 ^ (s + 1) - 1))) := by decide
theorem fz_fit_t2 : ∀ s, s < 4 → sd_t2 s = nI (fz_fit true s) := by decide
theorem fz_fit_t3 : ∀ s, s < 4 → sd_t3 s = nI (fz_fit false s) := by decide
theorem fz_term {x y k c : Int32} {a s : Nat} {od : Bool} (hx : x.toInt = (a : Int)) (hs : s < 4) (hy : y.toInt = (s : Int)) (hk : k.toInt = 1) (hc : c = nI (fz_fit od s)) : ∃ b : Nat, b < 65536 ∧ ((x &&& c) <<< ((k <<< (y &&& 31)) &&& 31)).toInt = (b : Int) ∧ ∀ m, m < 16 → b.testBit m = (m.testBit s && a.testBit (m - 2 ^ s) && (!od || decide (m = 2 ^ (s + 1) - 1))) := by
  have e1 : x = nI a := sd_nI hx
  have e2 : y = nI s := sd_nI hy
  have e3 : k = nI 1 := sd_nI hk
  have hb := fz_fit_bound od s hs
  have hle : (a &&& fz_fit od s) * 2 ^ 2 ^ s ≤ fz_fit od s * 2 ^ 2 ^ s := Nat.mul_le_mul_right _ Nat.and_le_right
  refine ⟨(a &&& fz_fit od s) * 2 ^ 2 ^ s, by omega, ?_, fun m hm => ?_⟩
  · rw [e1, e2, e3, hc, sd_fand, sd_shl_one s (by omega), pk_shlN _ (2 ^ s) (sd_smod s hs) (by omega)]
    exact nI_toInt (by omega)
  · rw [← Nat.shiftLeft_eq, Nat.testBit_shiftLeft, Nat.testBit_and]
    have := fz_fit_bit od s hs m hm
    by_cases q : 2 ^ s ≤ m
    · have q2 : (decide (m ≥ 2 ^ s)) = true := by simpa using q
      rw [q2]
      simp only [q, decide_true, Bool.true_and] at this
      rw [Bool.true_and, this]
      cases a.testBit (m - 2 ^ s) <;> cases m.testBit s <;> simp
    · have q2 : (decide (m ≥ 2 ^ s)) = false := by simpa using q
      rw [q2]
      simp only [q, decide_false, Bool.false_and] at this
      rw [Bool.false_and]
      cases a.testBit (m - 2 ^ s) <;> simp [← this] <;> simp_all
theorem fz_or {x y : Int32} {a b : Nat} (hx : x.toInt = (a : Int)) (hy : y.toInt = (b : Int)) (ha : a < 65536) (hb : b < 65536) : (x ||| y).toInt = ((a ||| b : Nat) : Int) ∧ a ||| b < 65536 := by
  have h := Nat.or_lt_two_pow (n := 16) ha hb
  rw [sd_nI hx, sd_nI hy, sd_for]
  exact ⟨nI_toInt (by omega), h⟩
def fz_dp (a : Nat) : Nat → Nat
  | 0 => 0
  | k + 1 => if a.testBit (2 ^ (k + 1) - 1) then k + 1 else fz_dp a k
theorem fz_dp_le (a : Nat) : ∀ n, fz_dp a n ≤ n
  | 0 => Nat.le_refl 0
  | n + 1 => by
    have := fz_dp_le a n
    rw [fz_dp]
    split <;> omega
theorem fz_dp_ge {a k : Nat} (h : a.testBit (2 ^ k - 1) = true) : ∀ n, 1 ≤ k → k ≤ n → k ≤ fz_dp a n
  | 0, h1, h2 => by omega
  | n + 1, h1, h2 => by
    rw [fz_dp]
    by_cases e : a.testBit (2 ^ (n + 1) - 1) = true
    · rw [if_pos e]; exact h2
    · rw [if_neg e]
      have : k ≠ n + 1 := by rintro rfl; exact e h
      exact fz_dp_ge h n h1 (by omega)
theorem fz_dp_is {a : Nat} : ∀ n, 0 < fz_dp a n → a.testBit (2 ^ fz_dp a n - 1) = true
  | 0, h => absurd h (Nat.lt_irrefl 0)
  | n + 1, h => by
    rw [fz_dp] at h ⊢
    by_cases e : a.testBit (2 ^ (n + 1) - 1) = true
    · rw [if_pos e]; exact e
    · rw [if_neg e] at h ⊢
      exact fz_dp_is n h
theorem fz_dp_0 : ∀ n, fz_dp 0 n = 0
  | 0 => rfl
  | n + 1 => by rw [fz_dp, Nat.zero_testBit]; exact fz_dp_0 n
theorem fz_bits_zero {a : Nat} (ha : a < 65536) (h : ∀ m, m < 16 → a.testBit m = false) : a = 0 := by
  apply Nat.eq_of_testBit_eq
  intro i
  rw [Nat.zero_testBit]
  by_cases hi : i < 16
  · exact h i hi
  · exact Nat.testBit_lt_two_pow (Nat.lt_of_lt_of_le ha (Nat.pow_le_pow_right (by decide) (by omega) : 2 ^ 16 ≤ 2 ^ i))
theorem fz_pow_lt : ∀ k, k < 5 → 2 ^ k - 1 < 16 := by decide

def b_set (β : sp_B) (a b : Nat) (v : Int) : sp_B := fun x y => if x = a ∧ y = b then v else β x y
theorem b_at (β : sp_B) (a b : Nat) (v : Int) : b_set β a b v a b = v := by simp [b_set]
theorem b_n1 {β : sp_B} {a b x : Nat} {v : Int} (h : x ≠ a) : b_set β a b v x = β x := by funext y; simp [b_set, h]
theorem b_n2 {β : sp_B} {a b x y : Nat} {v : Int} (h : y ≠ b) : b_set β a b v x y = β x y := by simp [b_set, h]
def sd_CS (σ : sd_Mem) (β : sp_B) : Prop := sd_CR σ β ∧ sd_RG β ∧ sd_BT σ β ∧ sd_LD σ β
def sd_hi (σ σ' : sd_Mem) : Prop := ∀ i k, 76 ≤ i → σ' i k = σ i k
def sd_lo (σ σ' : sd_Mem) : Prop := ∀ i k, i < 76 → σ' i k = σ i k
theorem sd_BT_fr {σ τ : sd_Mem} {β : sp_B} (h : ∀ a k, ¬ sd_lay a → τ a k = σ a k) (hB : sd_BT σ β) : sd_BT τ β := fun i hi => by rw [h 6 i (by unfold sd_lay; omega)]; exact hB i hi
theorem sd_CS_lay {σ τ : sd_Mem} {β : sp_B} (hC : sd_CR σ β) (hG : sd_RG β) (hB : sd_BT σ β) (h : (∀ a k, ¬ sd_lay a → τ a k = σ a k) ∧ sd_LD τ β) : sd_CS τ β := ⟨sd_CR_fr h.1 hC, hG, sd_BT_fr h.1 hB, h.2⟩
theorem sd_hi_lay {σ τ τ' : sd_Mem} (h0 : sd_hi σ τ) (h : ∀ a k, ¬ sd_lay a → τ' a k = τ a k) : sd_hi σ τ' := fun i k hi => by rw [h i k (by unfold sd_lay; omega)]; exact h0 i k hi
-- what each call answers and does
def an_click (β : sp_B) (t w s : Int) : Int := if w < 0 ∨ 24 ≤ w then -1001 else if t < 0 ∨ 200000 < t ∨ s < 0 ∨ 8 ≤ s then -1002 else if β 0 0 = 120 then -1004 else β 0 0
def b_click (β : sp_B) (t w s : Int) : sp_B := b_set (b_set (b_set (b_set β 0 0 (β 0 0 + 1)) 1 (sp_n β) t) 2 (sp_n β) w) 3 (sp_n β) s
def up_click (β : sp_B) (t w s : Int) : sp_B := if (w < 0 ∨ 24 ≤ w) ∨ (t < 0 ∨ 200000 < t ∨ s < 0 ∨ 8 ≤ s) ∨ β 0 0 = 120 then β else b_click β t w s
def an_strike (β : sp_B) (c : Int) : Int := if c < 0 ∨ β 0 0 ≤ c then -1001 else β 4 c.toNat
def up_strike (β : sp_B) (c on : Int) : sp_B := if c < 0 ∨ β 0 0 ≤ c then β else b_set β 4 c.toNat on
def an_join (β : sp_B) (m nm : Int) : Int := if m < 12 ∨ 24 ≤ m ∨ nm < 0 ∨ 12 ≤ nm then -1001 else if β 5 m.toNat ≠ m then -1003 else (sp_owned β m.toNat : Int)
def up_join (β : sp_B) (m nm : Int) : sp_B := if (m < 12 ∨ 24 ≤ m ∨ nm < 0 ∨ 12 ≤ nm) ∨ β 5 m.toNat ≠ m then β else b_set β 5 m.toNat nm
def sp_lo (w : Int) : Int := if w = 2 then -1 else if w = 4 then 1 else 0
def sp_hi (w : Int) : Int := if w = 0 ∨ w = 4 then 10000 else if w = 1 then 1 else if w = 3 then 100 else 7
def an_rule (β : sp_B) (w v : Int) : Int := if w < 0 ∨ 6 ≤ w ∨ v < sp_lo w ∨ sp_hi w < v then -1002 else β 6 w.toNat
def up_rule (β : sp_B) (w v : Int) : sp_B := if w < 0 ∨ 6 ≤ w ∨ v < sp_lo w ∨ sp_hi w < v then β else b_set β 6 w.toNat v
def an_told (β : sp_B) (c w : Int) : Int := if c < 0 ∨ β 0 0 ≤ c then -1001 else if w < 0 ∨ 6 < w then -1002 else if w = 0 then β 1 c.toNat else if w = 1 then β 2 c.toNat else if w = 2 then β 3 c.toNat else if w = 3 then (sp_per β c.toNat : Int) else if w = 4 then (if sp_pl (sp_row β (sp_per β c.toNat)) c.toNat < 0 then 0 else 1) else if w = 5 then sp_si β (sp_row β (sp_per β c.toNat)) c.toNat else sp_pl (sp_row β (sp_per β c.toNat)) c.toNat
def sp_q (β : sp_B) (p : Int) : Nat := (β 5 p.toNat).toNat
def an_person (β : sp_B) (p w : Int) : Int := if p < 0 ∨ 24 ≤ p then -1001 else if w = 0 then (sp_q β p : Int) else if w = 1 then (sp_owned β (sp_q β p) : Int) else if w = 2 then ((sp_row β (sp_q β p)).length : Int) else if w = 3 then (if sp_quick β (sp_raw β (sp_q β p)) then 1 else 0) else if w = 4 then (sp_ns β (sp_row β (sp_q β p)) (sp_row β (sp_q β p)).length : Int) else if w = 5 then sp_birth β (sp_row β (sp_q β p)) else -1002
def an_row (β : sp_B) (p i : Int) : Int := if p < 0 ∨ 24 ≤ p then -1001 else if i < 0 ∨ ((sp_row β (sp_q β p)).length : Int) ≤ i then -1 else ((sp_row β (sp_q β p)).getD i.toNat 0 : Int)
def sp_sc (β : sp_B) (l : List Nat) (i : Int) : Nat → Nat
  | 0 => 0
  | j + 1 => sp_sc β l i j + if (sp_ns β l (j + 1) : Int) - 1 = i then 1 else 0
def sp_sl (β : sp_B) (l : List Nat) (i : Int) : Nat → Int
  | 0 => -1
  | j + 1 => if (sp_ns β l (j + 1) : Int) - 1 = i then (l.getD j 0 : Int) else sp_sl β l i j
def sp_sf (β : sp_B) (l : List Nat) (i : Int) : Nat → Int
  | 0 => -1
  | j + 1 => if (sp_ns β l (j + 1) : Int) - 1 = i ∧ sp_sc β l i j = 0 then (l.getD j 0 : Int) else sp_sf β l i j
def an_sit (β : sp_B) (l : List Nat) (i w : Int) : Int := if i < 0 ∨ (sp_ns β l l.length : Int) ≤ i then -1001 else if w < 0 ∨ 3 < w then -1002 else if w = 0 then sp_sf β l i l.length else if w = 1 then sp_sl β l i l.length else if w = 2 then (sp_sc β l i l.length : Int) else β 1 (sp_sl β l i l.length).toNat - β 1 (sp_sf β l i l.length).toNat
def an_sitting (β : sp_B) (p i w : Int) : Int := if p < 0 ∨ 24 ≤ p then -1001 else an_sit β (sp_row β (sp_q β p)) i w
def sp_sum (f : Nat → Int) : Nat → Int
  | 0 => 0
  | n + 1 => sp_sum f n + f n
def sp_b (b : Bool) : Int := if b then 1 else 0
def an_count (β : sp_B) (w : Int) : Int := if w = 0 then β 0 0 else if w = 1 then sp_sum (fun q => ((sp_row β q).length : Int)) 24 else if w = 2 then sp_sum (fun q => (sp_ns β (sp_row β q) (sp_row β q).length : Int)) 24 else if w = 3 then sp_sum (fun q => sp_b (decide (0 < (sp_row β q).length))) 24 else if w = 4 then sp_sum (fun q => sp_b (sp_quick β (sp_raw β q))) 24 else if w = 5 then sp_sum (fun q => sp_b (decide (β 5 q ≠ (q : Int)))) 24 else if w = 6 then β 0 1 else -1002
def an_born (β : sp_B) (w : Int) : Int := if w < 0 ∨ 20 ≤ w then -1002 else sp_sum (fun q => sp_b (decide (sp_birth β (sp_row β q) = w))) 24
def an_came (β : sp_B) (w d : Int) : Int := if w < 0 ∨ 20 ≤ w ∨ d < 0 ∨ 20 ≤ d then -1002 else sp_sum (fun q => sp_b (decide (sp_birth β (sp_row β q) = w) && sp_came β (sp_row β q) (w + d))) 24
def sp_dl (β : sp_B) (l : List Nat) (d : Int32) : Nat → Int32
  | 0 => d
  | j + 1 => 31 * (31 * sp_dl β l d j + Int32.ofInt (l.getD j 0 : Int)) + Int32.ofInt ((sp_ns β l (j + 1) : Int) - 1)
def sp_dg (β : sp_B) : Nat → Int32
  | 0 => 7
  | q + 1 => if β 5 q = (q : Int) then 31 * sp_dl β (sp_row β q) (sp_dg β q) (sp_row β q).length + Int32.ofInt (sp_birth β (sp_row β q)) else sp_dg β q
theorem sd_ofInt {x : Int32} {z : Int} (h : x.toInt = z) : x = Int32.ofInt z := by rw [← h]; simp
theorem sp_sum_cong {f g : Nat → Int} : ∀ {n : Nat}, (∀ q, q < n → f q = g q) → sp_sum f n = sp_sum g n
  | 0, _ => rfl
  | n + 1, h => by rw [sp_sum, sp_sum, sp_sum_cong (n := n) (fun q hq => h q (by omega)), h n (by omega)]
theorem sp_sum_rng {f : Nat → Int} {m : Int} (h : ∀ q, 0 ≤ f q ∧ f q ≤ m) : ∀ n : Nat, 0 ≤ sp_sum f n ∧ sp_sum f n ≤ n * m
  | 0 => by simp [sp_sum]
  | n + 1 => by
    have h1 := sp_sum_rng h n
    have h2 := h n
    have e : ((n + 1 : Nat) : Int) * m = n * m + m := by
      rw [show ((n + 1 : Nat) : Int) = (n : Int) + 1 by omega, Int.add_mul]; omega
    rw [sp_sum, e]
    omega
theorem sp_b_rng (b : Bool) : 0 ≤ sp_b b ∧ sp_b b ≤ 1 := by cases b <;> decide
theorem sp_sum_b (f : Nat → Bool) (n : Nat) (h : n ≤ 24) : 0 ≤ sp_sum (fun q => sp_b (f q)) n ∧ sp_sum (fun q => sp_b (f q)) n ≤ 24 := by
  have := sp_sum_rng (f := fun q => sp_b (f q)) (m := 1) (fun q => sp_b_rng (f q)) n
  omega
theorem sp_sc_le (β : sp_B) (l : List Nat) (i : Int) : ∀ j : Nat, sp_sc β l i j ≤ j
  | 0 => Nat.le_refl 0
  | j + 1 => by
    have := sp_sc_le β l i j
    rw [sp_sc]
    split <;> omega
theorem sp_sc_zero (β : sp_B) (l : List Nat) (i : Int) : ∀ j : Nat, sp_sc β l i j = 0 ↔ (i < 0 ∨ (sp_ns β l j : Int) ≤ i)
  | 0 => by simp [sp_sc, sp_ns]; omega
  | j + 1 => by
    have ih := sp_sc_zero β l i j
    have h2 := sp_ns_pos β l j
    have h3 : sp_ns β l (j + 1) = sp_ns β l j ∨ sp_ns β l (j + 1) = sp_ns β l j + 1 := by
      rw [sp_ns]
      split
      · exact Or.inr rfl
      · exact Or.inl rfl
    rw [sp_sc]
    split <;> omega
theorem sp_sl_mem (β : sp_B) (l : List Nat) (i : Int) : ∀ j : Nat, j ≤ l.length → (sp_sc β l i j = 0 ∧ sp_sl β l i j = -1 ∧ sp_sf β l i j = -1) ∨ (∃ a b, a < j ∧ b < j ∧ sp_sl β l i j = (l.getD a 0 : Int) ∧ sp_sf β l i j = (l.getD b 0 : Int) ∧ sp_sc β l i j ≠ 0)
  | 0, _ => Or.inl ⟨rfl, rfl, rfl⟩
  | j + 1, hj => by
    have ih := sp_sl_mem β l i j (by omega)
    rw [sp_sc, sp_sl, sp_sf]
    by_cases h : (sp_ns β l (j + 1) : Int) - 1 = i
    · rw [if_pos h, if_pos h]
      right
      rcases ih with ⟨h1, h2, h3⟩ | ⟨a, b, h1, h2, h3, h4, h5⟩
      · rw [if_pos ⟨h, h1⟩]
        exact ⟨j, j, by omega, by omega, rfl, rfl, by omega⟩
      · rw [if_neg (fun q => h5 q.2)]
        exact ⟨j, b, by omega, by omega, rfl, h4, by omega⟩
    · rw [if_neg h, if_neg h, if_neg (fun q => h q.1)]
      rcases ih with ⟨h1, h2, h3⟩ | ⟨a, b, h1, h2, h3, h4, h5⟩
      · exact Or.inl ⟨by omega, h2, h3⟩
      · exact Or.inr ⟨a, b, by omega, by omega, h3, h4, by omega⟩
-- the base after a change
theorem sd_CR_set {σ : sd_Mem} {β : sp_B} (h : sd_CR σ β) {a i j : Nat} {x : Int32} {v : Int} (hv : x.toInt = v) (ha : (a = 4 ∧ i = 5 ∧ j < 120) ∨ (a = 5 ∧ i = 7 ∧ j < 24) ∨ (a = 6 ∧ i = 8 ∧ j < 6)) : sd_CR (sd_st σ i j x) (b_set β a j v) := by
  obtain ⟨⟨a1, a2⟩, b, c, d, e, f⟩ := h
  have hi : i = 5 ∨ i = 7 ∨ i = 8 := by omega
  refine ⟨⟨?_, ?_⟩, fun c1 hc => ?_, fun p hp => ?_, fun k hk => ?_, fun f1 hf => ?_, fun f1 k hf hk => ?_⟩
  · rw [sd_st_ne (by omega), b_n1 (by omega)]; exact a1
  · rw [sd_st_ne (by omega), b_n1 (by omega)]; exact a2
  · rw [sd_st_ne (by omega), sd_st_ne (by omega), sd_st_ne (by omega), b_n1 (x := 1) (by omega), b_n1 (x := 2) (by omega), b_n1 (x := 3) (by omega)]
    refine ⟨(b c1 hc).1, (b c1 hc).2.1, (b c1 hc).2.2.1, ?_⟩
    rw [sd_st_eq]
    unfold b_set
    by_cases q : a = 4 ∧ c1 = j
    · rw [if_pos (by omega), if_pos (by omega)]; exact hv
    · rw [if_neg (by omega), if_neg (by omega)]; exact (b c1 hc).2.2.2
  · rw [sd_st_eq]
    unfold b_set
    by_cases q : a = 5 ∧ p = j
    · rw [if_pos (by omega), if_pos (by omega)]; exact hv
    · rw [if_neg (by omega), if_neg (by omega)]; exact c p hp
  · rw [sd_st_eq]
    unfold b_set
    by_cases q : a = 6 ∧ k = j
    · rw [if_pos (by omega), if_pos (by omega)]; exact hv
    · rw [if_neg (by omega), if_neg (by omega)]; exact d k hk
  · rw [sd_st_ne (by omega), b_n1 (by omega), b_n1 (by omega), b_n1 (by omega), b_n1 (by omega)]; exact e f1 hf
  · rw [sd_st_ne (by omega), b_n1 (by omega)]; exact f f1 k hf hk
theorem sd_BT_set {σ : sd_Mem} {β : sp_B} (h : sd_BT σ β) {a i j : Nat} {x : Int32} {v : Int} (ha : 4 ≤ a) (hi : i ≠ 6) : sd_BT (sd_st σ i j x) (b_set β a j v) := by
  unfold sd_BT sp_n
  rw [b_n1 (x := 0) (by omega), b_n1 (x := 1) (by omega), sd_st_ne (Ne.symm hi)]
  exact h
theorem sd_RG_strike {β : sp_B} (h : sd_RG β) {c : Nat} {v : Int} (hv : v = 0 ∨ v = 1) : sd_RG (b_set β 4 c v) := by
  obtain ⟨a, b, d⟩ := h
  unfold sd_RG
  rw [b_n1 (x := 0) (by omega), b_n1 (x := 1) (by omega), b_n1 (x := 2) (by omega), b_n1 (x := 3) (by omega), b_n1 (x := 5) (by omega), b_n1 (x := 6) (by omega), b_n1 (x := 7) (by omega), b_n1 (x := 8) (by omega), b_n1 (x := 9) (by omega), b_n1 (x := 10) (by omega), b_n1 (x := 11) (by omega)]
  refine ⟨a, fun c1 hc => ?_, d⟩
  have := b c1 hc
  refine ⟨this.1, this.2.1, this.2.2.1, this.2.2.2.1, this.2.2.2.2.1, this.2.2.2.2.2.1, ?_⟩
  unfold b_set
  split
  · exact hv
  · exact this.2.2.2.2.2.2
theorem sd_RG_join {β : sp_B} (h : sd_RG β) {m : Nat} {v : Int} (hm : 12 ≤ m) (hv : 0 ≤ v ∧ v < 12) : sd_RG (b_set β 5 m v) := by
  obtain ⟨a, b, c, d⟩ := h
  unfold sd_RG
  rw [b_n1 (x := 0) (by omega), b_n1 (x := 1) (by omega), b_n1 (x := 2) (by omega), b_n1 (x := 3) (by omega), b_n1 (x := 4) (by omega), b_n1 (x := 6) (by omega), b_n1 (x := 7) (by omega), b_n1 (x := 8) (by omega), b_n1 (x := 9) (by omega), b_n1 (x := 10) (by omega), b_n1 (x := 11) (by omega)]
  refine ⟨a, b, fun p hp => ?_, d⟩
  have := c p hp
  unfold b_set
  split
  · omega
  · exact this
theorem sd_RG_rule {β : sp_B} (h : sd_RG β) {w : Nat} {v : Int} (hw : w < 6) (h1 : sp_lo w ≤ v) (h2 : v ≤ sp_hi w) : sd_RG (b_set β 6 w v) := by
  obtain ⟨a, b, c, d, e⟩ := h
  unfold sd_RG
  rw [b_n1 (x := 0) (by omega), b_n1 (x := 1) (by omega), b_n1 (x := 2) (by omega), b_n1 (x := 3) (by omega), b_n1 (x := 4) (by omega), b_n1 (x := 5) (by omega), b_n1 (x := 7) (by omega), b_n1 (x := 8) (by omega), b_n1 (x := 9) (by omega), b_n1 (x := 10) (by omega), b_n1 (x := 11) (by omega)]
  refine ⟨a, b, c, ?_, e⟩
  have hw6 : w = 0 ∨ w = 1 ∨ w = 2 ∨ w = 3 ∨ w = 4 ∨ w = 5 := by omega
  rcases hw6 with rfl | rfl | rfl | rfl | rfl | rfl <;> simp [sp_lo, sp_hi] at h1 h2 <;> simp only [b_set] <;> simp <;> omega
theorem sd_RG_click {β : sp_B} (h : sd_RG β) {t w s : Int} (hn : sp_n β < 120) (ht : 0 ≤ t ∧ t ≤ 200000) (hw : 0 ≤ w ∧ w < 24) (hs : 0 ≤ s ∧ s < 8) : sd_RG (b_click β t w s) := by
  have hN := sp_n_le h
  obtain ⟨a, b, c, d⟩ := h
  unfold sd_RG b_click
  refine ⟨?_, fun c1 hc => ?_, ?_⟩
  · rw [b_n1 (x := 0) (by omega), b_n1 (x := 0) (by omega), b_n1 (x := 0) (by omega), b_at, b_n2 (y := 1) (by omega)]
    omega
  · have := b c1 hc
    simp only [b_set]
    refine ⟨?_, ?_, ?_, ?_, ?_, ?_, ?_⟩ <;> (repeat' split) <;> omega
  · simp only [b_n1 (β := _) (a := 3) (x := 5) (by decide), b_n1 (a := 2) (x := 5) (by decide), b_n1 (a := 1) (x := 5) (by decide), b_n1 (a := 0) (x := 5) (by decide), b_n1 (a := 3) (x := 6) (by decide), b_n1 (a := 2) (x := 6) (by decide), b_n1 (a := 1) (x := 6) (by decide), b_n1 (a := 0) (x := 6) (by decide), b_n1 (a := 3) (x := 7) (by decide), b_n1 (a := 2) (x := 7) (by decide), b_n1 (a := 1) (x := 7) (by decide), b_n1 (a := 0) (x := 7) (by decide), b_n1 (a := 3) (x := 8) (by decide), b_n1 (a := 2) (x := 8) (by decide), b_n1 (a := 1) (x := 8) (by decide), b_n1 (a := 0) (x := 8) (by decide), b_n1 (a := 3) (x := 9) (by decide), b_n1 (a := 2) (x := 9) (by decide), b_n1 (a := 1) (x := 9) (by decide), b_n1 (a := 0) (x := 9) (by decide), b_n1 (a := 3) (x := 10) (by decide), b_n1 (a := 2) (x := 10) (by decide), b_n1 (a := 1) (x := 10) (by decide), b_n1 (a := 0) (x := 10) (by decide), b_n1 (a := 3) (x := 11) (by decide), b_n1 (a := 2) (x := 11) (by decide), b_n1 (a := 1) (x := 11) (by decide), b_n1 (a := 0) (x := 11) (by decide)]
    exact ⟨c, d⟩
theorem b_click_n {β : sp_B} {t w s : Int} (h : sd_RG β) : sp_n (b_click β t w s) = sp_n β + 1 := by
  have := sp_n_le h
  unfold sp_n b_click
  rw [b_n1 (x := 0) (by omega), b_n1 (x := 0) (by omega), b_n1 (x := 0) (by omega), b_at]
  unfold sp_n at this
  omega
theorem b_click_1 {β : sp_B} {t w s : Int} (c : Nat) : b_click β t w s 1 c = if c = sp_n β then t else β 1 c := by
  unfold b_click
  rw [b_n1 (x := 1) (by omega), b_n1 (x := 1) (by omega)]
  simp [b_set]
theorem sd_BT_click {σ σ' : sd_Mem} {β : sp_B} (hC : sd_CR σ β) (hG : sd_RG β) (hB : sd_BT σ β) {t w s : Int} (hn : sp_n β < 120) {a : Nat} (ha : a ≤ sp_n β) (h1 : ∀ j, j < a → σ' 6 j = σ 6 j) (h2 : (σ' 6 a).toInt = (sp_n β : Int)) (h3 : ∀ j, a < j → j ≤ sp_n β → σ' 6 j = σ 6 (j - 1)) (h4 : ∀ j, a ≤ j → j < sp_n β → t < (σ 2 (σ 6 j).toInt.toNat).toInt) (h5 : a = 0 ∨ (σ 2 (σ 6 (a - 1)).toInt.toNat).toInt ≤ t) : sd_BT σ' (b_click β t w s) := by
  have hlen := sp_srt_len (t := β 1) (sp_n β)
  have hN := sp_n_le hG
  have key : ∀ j, j < sp_n β → (σ 2 (σ 6 j).toInt.toNat).toInt = β 1 ((sp_srt (β 1) (sp_n β)).getD j 0) ∧ (sp_srt (β 1) (sp_n β)).getD j 0 < sp_n β := by
    intro j hj
    have q1 := hB j hj
    have q2 : (sp_srt (β 1) (sp_n β)).getD j 0 < sp_n β := sp_srt_mem.mp (sp_getD_mem (by omega))
    have q3 : (σ 6 j).toInt.toNat = (sp_srt (β 1) (sp_n β)).getD j 0 := by omega
    rw [q3]
    exact ⟨(hC.2.1 _ (by omega)).1, q2⟩
  have e1 : sp_srt (b_click β t w s 1) (sp_n β) = sp_srt (β 1) (sp_n β) := sp_srt_cong (fun c hc => by rw [b_click_1, if_neg (by omega)])
  have e2 : sp_srt (b_click β t w s 1) (sp_n β + 1) = (sp_srt (β 1) (sp_n β)).take a ++ sp_n β :: (sp_srt (β 1) (sp_n β)).drop a := by
    rw [sp_srt, e1]
    refine sp_ins_at ?_ (by omega) (fun j q1 q2 => ?_) ?_
    · rw [← e1]; exact sp_srt_sorted _
    · have q3 := key j (by omega)
      rw [b_click_1, if_pos rfl, b_click_1, if_neg (by omega), ← q3.1]
      exact h4 j q1 (by omega)
    · rcases h5 with q | q
      · exact Or.inl q
      · by_cases a0 : a = 0
        · exact Or.inl a0
        · right
          have q3 := key (a - 1) (by omega)
          rw [b_click_1, if_neg (by omega), b_click_1, if_pos rfl, ← q3.1]
          exact q
  intro i hi
  rw [b_click_n hG] at hi ⊢
  rw [e2, sp_insD (by omega)]
  by_cases q1 : i < a
  · rw [if_pos q1, h1 i q1]; exact hB i (by omega)
  · rw [if_neg q1]
    by_cases q2 : i = a
    · rw [if_pos q2, q2]; exact h2
    · rw [if_neg q2, h3 i (by omega) (by omega)]; exact hB (i - 1) (by omega)
theorem sd_CR_click {σ σ' : sd_Mem} {β : sp_B} (hC : sd_CR σ β) (hG : sd_RG β) {x1 x2 x3 : Int32} (h0 : ∀ i k, i ≠ 1 → i ≠ 2 → i ≠ 3 → i ≠ 4 → i ≠ 6 → σ' i k = σ i k) (h1 : (σ' 1 5).toInt = (sp_n β : Int) + 1) (h2 : ∀ k, σ' 2 k = if k = sp_n β then x1 else σ 2 k) (h3 : ∀ k, σ' 3 k = if k = sp_n β then x2 else σ 3 k) (h4 : ∀ k, σ' 4 k = if k = sp_n β then x3 else σ 4 k) : sd_CR σ' (b_click β x1.toInt x2.toInt x3.toInt) := by
  have hN := sp_n_le hG
  obtain ⟨⟨a1, a2⟩, b, c, d, e, f⟩ := hC
  unfold b_click
  refine ⟨⟨?_, ?_⟩, fun c1 hc => ?_, fun p hp => ?_, fun k hk => ?_, fun f1 hf => ?_, fun f1 k hf hk => ?_⟩
  · rw [b_n1 (x := 0) (by omega), b_n1 (x := 0) (by omega), b_n1 (x := 0) (by omega), b_at, h1]; omega
  · rw [b_n1 (x := 0) (by omega), b_n1 (x := 0) (by omega), b_n1 (x := 0) (by omega), b_n2 (y := 1) (by omega), h0 0 7 (by omega) (by omega) (by omega) (by omega) (by omega)]; exact a2
  · have := b c1 hc
    rw [h2, h3, h4, h0 5 c1 (by omega) (by omega) (by omega) (by omega) (by omega)]
    simp only [b_set]
    refine ⟨?_, ?_, ?_, ?_⟩
    · by_cases q : c1 = sp_n β
      · simp [q]
      · simp [q]; exact this.1
    · by_cases q : c1 = sp_n β
      · simp [q]
      · simp [q]; exact this.2.1
    · by_cases q : c1 = sp_n β
      · simp [q]
      · simp [q]; exact this.2.2.1
    · simp; exact this.2.2.2
  · rw [h0 7 p (by omega) (by omega) (by omega) (by omega) (by omega), b_n1 (by omega), b_n1 (by omega), b_n1 (by omega), b_n1 (by omega)]; exact c p hp
  · rw [h0 8 k (by omega) (by omega) (by omega) (by omega) (by omega), b_n1 (by omega), b_n1 (by omega), b_n1 (by omega), b_n1 (by omega)]; exact d k hk
  · rw [h0 (64 + f1) 1 (by omega) (by omega) (by omega) (by omega) (by omega), h0 (64 + f1) 2 (by omega) (by omega) (by omega) (by omega) (by omega), h0 (64 + f1) 3 (by omega) (by omega) (by omega) (by omega) (by omega), h0 (64 + f1) 4 (by omega) (by omega) (by omega) (by omega) (by omega)]
    have := e f1 hf
    simp only [b_set]
    simp
    exact this
  · rw [h0 (70 + f1) k (by omega) (by omega) (by omega) (by omega) (by omega), b_n1 (by omega), b_n1 (by omega), b_n1 (by omega), b_n1 (by omega)]; exact f f1 k hf hk

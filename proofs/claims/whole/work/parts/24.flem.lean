def sd_sk (σ σ' : sd_Mem) : Prop := ∀ i k, i ≠ 13 → i ≠ 14 → i ≠ 15 → σ' i k = σ i k
theorem sd_sk.rf (σ : sd_Mem) : sd_sk σ σ := fun _ _ _ _ _ => rfl
theorem sd_sk.tr {σ τ υ : sd_Mem} (h1 : sd_sk σ τ) (h2 : sd_sk τ υ) : sd_sk σ υ := fun i k a b c => by rw [h2 i k a b c, h1 i k a b c]
theorem sd_sk.st {σ τ : sd_Mem} (h : sd_sk σ τ) {i k : Nat} {x : Int32} (hi : i = 13 ∨ i = 14 ∨ i = 15) : sd_sk σ (sd_st τ i k x) := fun a b h1 h2 h3 => by rw [sd_st_ne (by omega)]; exact h a b h1 h2 h3
theorem sd_CR_sk {σ τ : sd_Mem} {β : sp_B} (h : sd_sk σ τ) (hC : sd_CR σ β) : sd_CR τ β := by
  obtain ⟨⟨a1, a2⟩, b, c, d, e, f⟩ := hC
  refine ⟨⟨?_, ?_⟩, fun c1 hc => ?_, fun p hp => ?_, fun j hj => ?_, fun f1 hf => ?_, fun f1 j hf hj => ?_⟩
  · rw [h 1 5 (by omega) (by omega) (by omega)]; exact a1
  · rw [h 0 7 (by omega) (by omega) (by omega)]; exact a2
  · rw [h 2 _ (by omega) (by omega) (by omega), h 3 _ (by omega) (by omega) (by omega), h 4 _ (by omega) (by omega) (by omega), h 5 _ (by omega) (by omega) (by omega)]; exact b c1 hc
  · rw [h 7 _ (by omega) (by omega) (by omega)]; exact c p hp
  · rw [h 8 _ (by omega) (by omega) (by omega)]; exact d j hj
  · rw [h (64 + f1) 1 (by omega) (by omega) (by omega), h (64 + f1) 2 (by omega) (by omega) (by omega), h (64 + f1) 3 (by omega) (by omega) (by omega), h (64 + f1) 4 (by omega) (by omega) (by omega)]; exact e f1 hf
  · rw [h (70 + f1) _ (by omega) (by omega) (by omega)]; exact f f1 j hf hj
theorem sd_RV_sk {σ τ : sd_Mem} {q : Nat} {l : List Nat} (h : sd_sk σ τ) (hV : sd_RV σ q l) : sd_RV τ q l := sd_RV_cong hV (h _ _ (by omega) (by omega) (by omega)) (fun k => h _ _ (by omega) (by omega) (by omega))
theorem sd_RW_sk {σ τ : sd_Mem} {β : sp_B} {q : Nat} {l : List Nat} (h : sd_sk σ τ) (hW : sd_RW σ β q l) : sd_RW τ β q l := ⟨sd_CR_sk h hW.1, hW.2.1, sd_RV_sk h hW.2.2.1, hW.2.2.2⟩
theorem sd_CS_sk {σ τ : sd_Mem} {β : sp_B} (h : sd_sk σ τ) (hS : sd_CS σ β) : sd_CS τ β := by
  obtain ⟨hC, hG, hB, hL1, hL2⟩ := hS
  refine ⟨sd_CR_sk h hC, hG, fun i hi => ?_, fun q hq => ?_, fun c hc => ?_⟩
  · rw [h 6 _ (by omega) (by omega) (by omega)]; exact hB i hi
  · obtain ⟨a, b, c, d⟩ := hL1 q hq
    refine ⟨sd_RV_sk h a, ?_, ?_, ?_⟩
    · rw [h _ _ (by omega) (by omega) (by omega)]; exact b
    · rw [h _ _ (by omega) (by omega) (by omega)]; exact c
    · rw [h _ _ (by omega) (by omega) (by omega)]; exact d
  · obtain ⟨a, b⟩ := hL2 c hc
    refine ⟨?_, ?_⟩
    · rw [h _ _ (by omega) (by omega) (by omega)]; exact a
    · rw [h _ _ (by omega) (by omega) (by omega)]; exact b
theorem sd_hi_sk {σ τ : sd_Mem} (h : sd_sk σ τ) : sd_hi σ τ := fun i k hi => h i k (by omega) (by omega) (by omega)
-- what the funnels' calls answer
def an_funnel (β : sp_B) (w b : Int) : Int := if w < 0 ∨ 100000 < w ∨ b < -1 ∨ 7 < b then -1002 else if β 0 1 = 6 then -1004 else β 0 1
def b_funnel (β : sp_B) (o w b : Int) : sp_B := b_set (b_set (b_set (b_set (b_set β 0 1 (β 0 1 + 1)) 7 (β 0 1).toNat 0) 8 (β 0 1).toNat o) 9 (β 0 1).toNat w) 10 (β 0 1).toNat b
def up_funnel (β : sp_B) (o w b : Int) : sp_B := if (w < 0 ∨ 100000 < w ∨ b < -1 ∨ 7 < b) ∨ β 0 1 = 6 then β else b_funnel β o w b
def an_step (β : sp_B) (f s : Int) : Int := if f < 0 ∨ β 0 1 ≤ f then -1001 else if s < 0 ∨ 8 ≤ s then -1002 else if β 7 f.toNat = 4 then -1004 else β 7 f.toNat + 1
def b_step (β : sp_B) (f : Nat) (s : Int) : sp_B := b_set (b_set β 11 (4 * f + (β 7 f).toNat) s) 7 f (β 7 f + 1)
def up_step (β : sp_B) (f s : Int) : sp_B := if (f < 0 ∨ β 0 1 ≤ f) ∨ (s < 0 ∨ 8 ≤ s) ∨ β 7 f.toNat = 4 then β else b_step β f.toNat s
def fN (β : sp_B) (f : Nat) (l : List Nat) : List (Nat × Nat) := fw β f l l.length
def an_ways (β : sp_B) (f p : Int) : Int := if f < 0 ∨ β 0 1 ≤ f ∨ (p ≠ -1 ∧ (p < 0 ∨ 24 ≤ p)) then -1001 else if p = -1 then sp_sum (fun q => ((fN β f.toNat (sp_row β q)).length : Int)) 24 else ((fN β f.toNat (sp_row β (sp_q β p))).length : Int)
def an_way (β : sp_B) (f p i w : Int) : Int := if f < 0 ∨ β 0 1 ≤ f ∨ p < 0 ∨ 24 ≤ p then -1001 else if i < 0 ∨ ((fN β f.toNat (sp_row β (sp_q β p))).length : Int) ≤ i then -1001 else if w = 0 then ((sp_row β (sp_q β p)).getD ((fN β f.toNat (sp_row β (sp_q β p))).getD i.toNat (0, 0)).1 0 : Int) else if w = 1 then ((sp_row β (sp_q β p)).getD ((fN β f.toNat (sp_row β (sp_q β p))).getD i.toNat (0, 0)).2 0 : Int) else -1002
def an_reach (β : sp_B) (f p : Int) : Int := if f < 0 ∨ β 0 1 ≤ f ∨ p < 0 ∨ 24 ≤ p then -1001 else (fR β f.toNat (sp_row β (sp_q β p)) : Int)
def fRb (β : sp_B) (f : Nat) (k : Int) (q : Nat) : Bool := decide (0 < (sp_row β q).length) && decide (k ≤ (fR β f (sp_row β q) : Int))
def an_reached (β : sp_B) (f k : Int) : Int := if f < 0 ∨ β 0 1 ≤ f then -1001 else if k < 0 ∨ 4 < k then -1002 else sp_sum (fun q => sp_b (fRb β f.toNat k q)) 24
-- the base's other parts stay
theorem sp_same {β β' : sp_B} (h0 : β' 0 0 = β 0 0) (h : ∀ a, 1 ≤ a → a ≤ 6 → β' a = β a) : (∀ q, sp_raw β' q = sp_raw β q) ∧ (∀ q, sp_row β' q = sp_row β q) ∧ (∀ q, sp_owned β' q = sp_owned β q) ∧ (∀ l, sp_quick β' l = sp_quick β l) ∧ (∀ l j, sp_ns β' l j = sp_ns β l j) ∧ (∀ l c, sp_si β' l c = sp_si β l c) ∧ (∀ c, sp_per β' c = sp_per β c) ∧ sp_n β' = sp_n β := by
  have e1 := h 1 (by omega) (by omega)
  have e2 := h 2 (by omega) (by omega)
  have e3 := h 3 (by omega) (by omega)
  have e4 := h 4 (by omega) (by omega)
  have e5 := h 5 (by omega) (by omega)
  have e6 := h 6 (by omega) (by omega)
  have en : sp_n β' = sp_n β := by unfold sp_n; rw [h0]
  have em : ∀ q, sp_mine β' q = sp_mine β q := fun q => by funext c; unfold sp_mine; rw [e5, e2]
  have ec : ∀ q, sp_cnts β' q = sp_cnts β q := fun q => by funext c; unfold sp_cnts; rw [em, e4]
  have er : ∀ q, sp_raw β' q = sp_raw β q := fun q => by unfold sp_raw; rw [e1, en, ec]
  have eq : ∀ l, sp_quick β' l = sp_quick β l := fun l => by unfold sp_quick; rw [e6, e1]
  have eo : ∀ q, sp_row β' q = sp_row β q := fun q => by unfold sp_row; rw [er, eq]
  have ecu : ∀ a b, sp_cut β' a b = sp_cut β a b := fun a b => by unfold sp_cut; rw [e1, e6, e3]
  have ens : ∀ l j, sp_ns β' l j = sp_ns β l j := by
    intro l j
    induction j with
    | zero => rfl
    | succ j ih => rw [sp_ns, sp_ns, ih, ecu]
  refine ⟨er, eo, fun q => ?_, eq, ens, fun l c => ?_, fun c => ?_, en⟩
  · unfold sp_owned; rw [em, en]
  · unfold sp_si; rw [ens]
  · unfold sp_per; rw [e5, e2]
theorem sd_CS_fun {σ σ' : sd_Mem} {β β' : sp_B} (hS : sd_CS σ β) (h0 : β' 0 0 = β 0 0) (h : ∀ a, 1 ≤ a → a ≤ 6 → β' a = β a) (hC : sd_CR σ' β') (hG : sd_RG β') (hf : ∀ i k, i < 64 → i ≠ 0 → σ' i k = σ i k) : sd_CS σ' β' := by
  obtain ⟨-, -, hB, hL1, hL2⟩ := hS
  obtain ⟨s1, s2, s3, s4, s5, s6, s7, s8⟩ := sp_same h0 h
  refine ⟨hC, hG, fun i hi => ?_, fun q hq => ?_, fun c hc => ?_⟩
  · rw [s8] at hi ⊢
    rw [h 1 (by omega) (by omega), hf 6 i (by omega) (by omega)]; exact hB i hi
  · obtain ⟨a, b, c, d⟩ := hL1 q hq
    unfold sd_LR
    rw [s2, s3, s1, s4, s5, hf _ _ (by omega) (by omega), hf _ _ (by omega) (by omega), hf _ _ (by omega) (by omega)]
    exact ⟨sd_RV_cong a (hf _ _ (by omega) (by omega)) (fun k => hf _ _ (by omega) (by omega)), b, c, d⟩
  · rw [s8] at hc
    obtain ⟨a, b⟩ := hL2 c hc
    unfold sd_LP
    rw [s7, s2, s6, hf _ _ (by omega) (by omega), hf _ _ (by omega) (by omega)]
    exact ⟨a, b⟩
theorem sd_RG_funnel {β : sp_B} (h : sd_RG β) {o w b : Int} (hn : β 0 1 < 6) (ho : o = 0 ∨ o = 1) (hw : 0 ≤ w ∧ w ≤ 100000) (hb : -1 ≤ b ∧ b ≤ 7) : sd_RG (b_funnel β o w b) := by
  obtain ⟨a, b1, c, d, e, f⟩ := h
  unfold sd_RG b_funnel
  refine ⟨?_, ?_, ?_, ?_, fun f1 hf => ?_, ?_⟩
  · simp only [b_set]; simp; omega
  · simp only [b_set]; simp; exact b1
  · simp only [b_set]; simp; exact c
  · simp only [b_set]; simp; exact d
  · have := e f1 hf
    simp only [b_set]
    simp
    refine ⟨?_, ?_, ?_, ?_, ?_, ?_, ?_⟩ <;> (repeat' split) <;> omega
  · simp only [b_set]; simp; exact f
theorem sd_CR_funnel {σ σ' : sd_Mem} {β : sp_B} (hC : sd_CR σ β) (hG : sd_RG β) {o w b : Int32} {f : Nat} (hf : β 0 1 = (f : Int)) (h6 : f < 6) (h0 : ∀ i k, i ≠ 64 + f → ¬ (i = 0 ∧ k = 7) → σ' i k = σ i k) (h1 : (σ' 0 7).toInt = (f : Int) + 1) (h2 : (σ' (64 + f) 1).toInt = 0) (h3 : σ' (64 + f) 2 = o) (h4 : σ' (64 + f) 3 = w) (h5 : σ' (64 + f) 4 = b) : sd_CR σ' (b_funnel β o.toInt w.toInt b.toInt) := by
  have ef : (β 0 1).toNat = f := by omega
  obtain ⟨⟨a1, a2⟩, b1, c, d, e, g⟩ := hC
  unfold b_funnel
  rw [ef]
  refine ⟨⟨?_, ?_⟩, fun c1 hc => ?_, fun p hp => ?_, fun k hk => ?_, fun f1 hf1 => ?_, fun f1 k hf1 hk => ?_⟩
  · rw [h0 1 5 (by omega) (by omega)]; simp only [b_set]; simp; exact a1
  · simp only [b_set]; simp; omega
  · rw [h0 2 _ (by omega) (by omega), h0 3 _ (by omega) (by omega), h0 4 _ (by omega) (by omega), h0 5 _ (by omega) (by omega)]; simp only [b_set]; simp; exact b1 c1 hc
  · rw [h0 7 _ (by omega) (by omega)]; simp only [b_set]; simp; exact c p hp
  · rw [h0 8 _ (by omega) (by omega)]; simp only [b_set]; simp; exact d k hk
  · by_cases q : f1 = f
    · subst q
      rw [h3, h4, h5]
      simp only [b_set]; simp; exact h2
    · rw [h0 (64 + f1) 1 (by omega) (by omega), h0 (64 + f1) 2 (by omega) (by omega), h0 (64 + f1) 3 (by omega) (by omega), h0 (64 + f1) 4 (by omega) (by omega)]
      simp only [b_set]; simp [q]; exact e f1 hf1
  · rw [h0 (70 + f1) k (by omega) (by omega)]; simp only [b_set]; simp; exact g f1 k hf1 hk
theorem sd_RG_step {β : sp_B} (h : sd_RG β) {f : Nat} {s : Int} (_ : f < 6) (hz : β 7 f < 4) (hs : 0 ≤ s ∧ s < 8) : sd_RG (b_step β f s) := by
  obtain ⟨a, b1, c, d, e, g⟩ := h
  unfold sd_RG b_step
  refine ⟨?_, ?_, ?_, ?_, fun f1 hf => ?_, fun k hk => ?_⟩
  · simp only [b_set]; simp; omega
  · simp only [b_set]; simp; exact b1
  · simp only [b_set]; simp; exact c
  · simp only [b_set]; simp; exact d
  · have h1 := e f1 hf
    simp only [b_set]
    simp
    refine ⟨?_, ?_, h1.2.2.1, h1.2.2.2.1, h1.2.2.2.2.1, h1.2.2.2.2.2.1, h1.2.2.2.2.2.2⟩
    · split
      · rename_i q; subst q; omega
      · exact h1.1
    · split
      · rename_i q; subst q; omega
      · exact h1.2.1
  · have h1 := g k hk
    simp only [b_set]
    simp
    split
    · exact hs
    · exact h1
theorem sd_CR_step {σ σ' : sd_Mem} {β : sp_B} (hC : sd_CR σ β) (hG : sd_RG β) {f : Nat} {s z : Int32} (h6 : f < 6) (hz : β 7 f < 4) (h0 : ∀ i k, ¬ (i = 64 + f ∧ k = 1) → ¬ (i = 70 + f ∧ k = (β 7 f).toNat) → σ' i k = σ i k) (h1 : (σ' (64 + f) 1).toInt = β 7 f + 1) (h2 : σ' (70 + f) (β 7 f).toNat = s) : sd_CR σ' (b_step β f s.toInt) := by
  have hf7 := (hG.2.2.2.2.1 f h6)
  obtain ⟨⟨a1, a2⟩, b1, c, d, e, g⟩ := hC
  unfold b_step
  refine ⟨⟨?_, ?_⟩, fun c1 hc => ?_, fun p hp => ?_, fun k hk => ?_, fun f1 hf1 => ?_, fun f1 k hf1 hk => ?_⟩
  · rw [h0 1 5 (by omega) (by omega)]; simp only [b_set]; simp; exact a1
  · rw [h0 0 7 (by omega) (by omega)]; simp only [b_set]; simp; exact a2
  · rw [h0 2 _ (by omega) (by omega), h0 3 _ (by omega) (by omega), h0 4 _ (by omega) (by omega), h0 5 _ (by omega) (by omega)]; simp only [b_set]; simp; exact b1 c1 hc
  · rw [h0 7 _ (by omega) (by omega)]; simp only [b_set]; simp; exact c p hp
  · rw [h0 8 _ (by omega) (by omega)]; simp only [b_set]; simp; exact d k hk
  · have := e f1 hf1
    rw [h0 (64 + f1) 2 (by omega) (by omega), h0 (64 + f1) 3 (by omega) (by omega), h0 (64 + f1) 4 (by omega) (by omega)]
    by_cases q : f1 = f
    · subst q
      simp only [b_set]; simp; exact ⟨h1, this.2⟩
    · rw [h0 (64 + f1) 1 (by omega) (by omega)]
      simp only [b_set]; simp [q]; exact this
  · by_cases q : f1 = f ∧ k = (β 7 f).toNat
    · obtain ⟨q1, q2⟩ := q
      subst q1; subst q2
      rw [h2]
      simp only [b_set]; simp
    · rw [h0 (70 + f1) k (by omega) (by omega)]
      simp only [b_set]
      rw [if_neg (by omega), if_neg (by omega)]
      exact g f1 k hf1 hk
-- seekFrom
def fI (β : sp_B) (f : Nat) (l : List Nat) (a i d : Nat) : Prop := d ≤ (β 7 f).toNat ∧ (∀ k i', 1 ≤ k → k ≤ (β 7 f).toNat → i' < i → fT β f l a i' (2 ^ k - 1) = true → k ≤ d) ∧ (0 < d → ∃ i', i' < i ∧ fT β f l a i' (2 ^ d - 1) = true) ∧ ∀ i', i' < i → fWb β f l a i' = true
def fEi (β : sp_B) (f : Nat) (l : List Nat) (a : Nat) : Int := match fE β f l (β 7 f).toNat a with
  | none => -1
  | some i => (a : Int) + (i : Int)
theorem fI_0 {β : sp_B} {f : Nat} {l : List Nat} {a : Nat} : fI β f l a 0 0 := ⟨Nat.zero_le _, fun _ _ _ _ h => absurd h (Nat.not_lt_zero _), fun h => absurd h (Nat.lt_irrefl 0), fun _ h => absurd h (Nat.not_lt_zero _)⟩
theorem fI_le {β : sp_B} {f : Nat} {l : List Nat} {a i d : Nat} (h : fI β f l a i d) : d ≤ (β 7 f).toNat := h.1
theorem fI_step {β : sp_B} {f : Nat} {l : List Nat} {a i d b d' : Nat} (h : fI β f l a i d) (hz : (β 7 f).toNat ≤ 4) (hw : fWb β f l a i = true) (hb : ∀ m, m < 16 → b.testBit m = fT β f l a i m) (hd : (d' = d ∧ fz_dp b (β 7 f).toNat ≤ d) ∨ (d' = fz_dp b (β 7 f).toNat ∧ d < d')) : fI β f l a (i + 1) d' := by
  obtain ⟨h1, h2, h3, h4⟩ := h
  have hle := fz_dp_le b (β 7 f).toNat
  refine ⟨by omega, fun k i' q1 q2 q3 q4 => ?_, fun q => ?_, fun i' q => ?_⟩
  · by_cases e : i' = i
    · subst e
      rw [← hb _ (fz_pow_lt k (by omega))] at q4
      have := fz_dp_ge q4 _ q1 q2
      omega
    · have := h2 k i' q1 q2 (by omega) q4
      omega
  · rcases hd with ⟨e, -⟩ | ⟨e, e2⟩
    · subst e
      obtain ⟨i', g1, g2⟩ := h3 q
      exact ⟨i', by omega, g2⟩
    · refine ⟨i, by omega, ?_⟩
      rw [← hb _ (fz_pow_lt d' (by omega)), e]
      exact fz_dp_is _ (by omega)
  · by_cases e : i' = i
    · subst e; exact hw
    · exact h4 i' (by omega)
theorem fI_D {β : sp_B} {f : Nat} {l : List Nat} {a i d : Nat} (h : fI β f l a i d) (hz : (β 7 f).toNat ≤ 4) (he : ∀ j, fWb β f l a j = true → i ≤ j → ∀ m, m < 16 → fT β f l a j m = false) : fD β f l a = d := by
  obtain ⟨h1, h2, h3, h4⟩ := h
  refine fDk_eq _ h1 (fun k q1 q2 q3 => ?_) (fun q => ?_)
  · obtain ⟨j, g1, g2⟩ := fE_iff.mp q3
    rcases Nat.lt_or_ge j i with w | w
    · exact h2 k j q1 q2 w g2
    · rw [he j g1 w _ (fz_pow_lt k (by omega))] at g2
      cases g2
  · obtain ⟨i', g1, g2⟩ := h3 q
    exact fE_iff.mpr ⟨i', h4 i' g1, g2⟩
theorem fI_none {β : sp_B} {f : Nat} {l : List Nat} {a i d : Nat} (h : fI β f l a i d) (hz : (β 7 f).toNat ≤ 4) (he : ∀ j, fWb β f l a j = true → i ≤ j → ∀ m, m < 16 → fT β f l a j m = false) (hd : d = 0 ∨ d ≠ (β 7 f).toNat) : fEi β f l a = -1 := by
  obtain ⟨h1, h2, h3, h4⟩ := h
  have : fE β f l (β 7 f).toNat a = none := by
    refine fE_none (fun j g1 => ?_)
    rcases Nat.lt_or_ge j i with w | w
    · rw [← Bool.not_eq_true]
      intro g2
      by_cases e : (β 7 f).toNat = 0
      · rw [e, fT_zero] at g2; cases g2
      · have := h2 _ j (by omega) (Nat.le_refl _) w g2
        omega
    · exact he j g1 w _ (fz_pow_lt _ (by omega))
  unfold fEi
  rw [this]
theorem fI_full {β : sp_B} {f : Nat} {l : List Nat} {a i d0 d : Nat} (h0 : fI β f l a i d0) (h : fI β f l a (i + 1) d) (hd0 : d0 = 0 ∨ d0 ≠ (β 7 f).toNat) (hd : 0 < d) (hd2 : d = (β 7 f).toNat) : fD β f l a = d ∧ fEi β f l a = (a : Int) + (i : Int) := by
  have hno : ∀ j, j < i → fT β f l a j (2 ^ (β 7 f).toNat - 1) = false := by
    intro j hj
    rw [← Bool.not_eq_true]
    intro g
    have := h0.2.1 _ j (by omega) (Nat.le_refl _) hj g
    have := h0.1
    omega
  obtain ⟨i', g1, g2⟩ := h.2.2.1 hd
  have e : i' = i := by
    rcases Nat.lt_or_ge i' i with w | w
    · have := hno i' w
      rw [← hd2, g2] at this
      cases this
    · omega
  subst e
  have hE : fE β f l (β 7 f).toNat a = some i' := fE_some (h.2.2.2 i' (by omega)) (by rw [← hd2]; exact g2) hno
  refine ⟨?_, ?_⟩
  · refine fDk_eq _ h.1 (fun k _ q2 _ => by omega) (fun _ => ?_)
    rw [hd2, hE]; rfl
  · unfold fEi; rw [hE]
theorem fS_next {β : sp_B} {f : Nat} {l : List Nat} {a i c b : Nat} (hc : ∀ m, m < 16 → c.testBit m = fS β f l a i m) (hb : ∀ m, m < 16 → b.testBit m = fT β f l a i m) {z : Nat} (h : ((i = 0 ∨ β 3 (l.getD (a + i) 0) = β 10 f) ∧ z = b) ∨ (¬ (i = 0 ∨ β 3 (l.getD (a + i) 0) = β 10 f) ∧ z = c ||| b)) : ∀ m, m < 16 → z.testBit m = fS β f l a (i + 1) m := by
  intro m hm
  unfold fS
  rw [fz_S]
  rcases h with ⟨h1, h2⟩ | ⟨h1, h2⟩
  · rw [if_pos h1, h2, hb m hm]; rfl
  · rw [if_neg h1, h2, Nat.testBit_or, hc m hm, hb m hm]; rfl
theorem fT_of {β : sp_B} {f : Nat} {l : List Nat} {a i c b : Nat} {x : Int} (hc : ∀ m, m < 16 → c.testBit m = fS β f l a i m) (hx : x = β 3 (l.getD (a + i) 0)) (hb : ∀ m, m < 16 → b.testBit m = fz_tk (decide (β 8 f = 1)) (β 7 f).toNat (fun j => β 11 (4 * f + j)) x (fun m => c.testBit m) m) : ∀ m, m < 16 → b.testBit m = fT β f l a i m := by
  intro m hm
  rw [hb m hm, hx]
  exact fz_tk_cong hm hc
theorem fS_0 {β : sp_B} {f : Nat} {l : List Nat} {a : Nat} : ∀ m, m < 16 → (1 : Nat).testBit m = fS β f l a 0 m := by
  intro m hm
  show (1 : Nat).testBit m = decide (m = 0)
  have key : ∀ m, m < 16 → (1 : Nat).testBit m = decide (m = 0) := by decide
  exact key m hm
-- tellWays
def fC (β : sp_B) (f : Nat) (l : List Nat) (w : List (Nat × Nat)) (c : Int) : Prop := match w.getLast? with
  | none => c = -1
  | some q => c = β 1 (l.getD q.1 0) + β 9 f
theorem fC_may {β : sp_B} {f : Nat} {l : List Nat} {w : List (Nat × Nat)} {c : Int} (h : fC β f l w c) {j : Nat} (h0 : 0 ≤ β 1 (l.getD j 0)) : fMay β f l w j = decide (c < β 1 (l.getD j 0)) := by
  unfold fC at h
  unfold fMay
  cases hw : w.getLast? with
  | none =>
    rw [hw] at h
    simp only at h
    rw [decide_eq_true (by omega)]
  | some q =>
    rw [hw] at h
    simp only at h
    show decide (β 1 (l.getD j 0) - β 1 (l.getD q.fst 0) > β 9 f) = decide (c < β 1 (l.getD j 0))
    congr 1
    apply propext
    omega
theorem fC_app {β : sp_B} {f : Nat} {l : List Nat} {w : List (Nat × Nat)} {c : Int} {j e : Nat} (h : c = β 1 (l.getD j 0) + β 9 f) : fC β f l (w ++ [(j, e)]) c := by
  unfold fC
  rw [List.getLast?_append]
  simpa using h
theorem fEi_cases {β : sp_B} {f : Nat} {l : List Nat} {a : Nat} {z : Int} (h : z = fEi β f l a) : (z = -1 ∧ fE β f l (β 7 f).toNat a = none) ∨ (∃ i : Nat, z = (a : Int) + (i : Int) ∧ fE β f l (β 7 f).toNat a = some i) := by
  unfold fEi at h
  cases hE : fE β f l (β 7 f).toNat a with
  | none => rw [hE] at h; exact Or.inl ⟨h, rfl⟩
  | some i => rw [hE] at h; exact Or.inr ⟨i, h, rfl⟩
def fP (σ : sd_Mem) (a b : Nat) (w : List (Nat × Nat)) : Prop := ∀ i, i < w.length → (σ a i).toInt = ((w.getD i (0, 0)).1 : Int) ∧ (σ b i).toInt = ((w.getD i (0, 0)).2 : Int)
theorem fP_app {σ τ : sd_Mem} {a b : Nat} {w : List (Nat × Nat)} {q : Nat × Nat} (h : fP σ a b w) (h1 : (τ a w.length).toInt = (q.1 : Int)) (h2 : (τ b w.length).toInt = (q.2 : Int)) (h3 : ∀ i, i ≠ w.length → τ a i = σ a i ∧ τ b i = σ b i) : fP τ a b (w ++ [q]) := by
  intro i hi
  rw [List.length_append] at hi
  simp at hi
  by_cases e : i = w.length
  · subst e
    simp [List.getD_eq_getElem?_getD]
    exact ⟨h1, h2⟩
  · have := h i (by omega)
    rw [(h3 i e).1, (h3 i e).2]
    simp only [List.getD_eq_getElem?_getD] at this ⊢
    rw [List.getElem?_append_left (by omega)]
    exact this
-- farthest
def fB (β : sp_B) (f : Nat) (l : List Nat) (p b : Nat) : Prop := b ≤ (β 7 f).toNat ∧ (∀ a, a < p → fD β f l a ≤ b) ∧ (0 < b → ∃ a, a < p ∧ (fE β f l b a).isSome = true)
theorem fB_0 {β : sp_B} {f : Nat} {l : List Nat} : fB β f l 0 0 := ⟨Nat.zero_le _, fun _ h => absurd h (Nat.not_lt_zero _), fun h => absurd h (Nat.lt_irrefl 0)⟩
theorem fB_step {β : sp_B} {f : Nat} {l : List Nat} {p b b' : Nat} (h : fB β f l p b) (hb : (b' = b ∧ fD β f l p ≤ b) ∨ (b' = fD β f l p ∧ b < b')) : fB β f l (p + 1) b' := by
  have hle : fD β f l p ≤ (β 7 f).toNat := fDk_le _
  obtain ⟨h1, h2, h3⟩ := h
  refine ⟨by omega, fun a ha => ?_, fun q => ?_⟩
  · by_cases e : a = p
    · subst e; omega
    · have := h2 a (by omega); omega
  · rcases hb with ⟨e, -⟩ | ⟨e, e2⟩
    · subst e
      obtain ⟨a, g1, g2⟩ := h3 q
      exact ⟨a, by omega, g2⟩
    · refine ⟨p, by omega, ?_⟩
      rw [e]
      exact fDk_is _ (by show 0 < fD β f l p; omega)
theorem fB_end {β : sp_B} {f : Nat} {l : List Nat} {p b : Nat} (h : fB β f l p b) (hp : p ≤ l.length) (he : p = l.length ∨ (β 7 f).toNat ≤ b) : fR β f l = b := by
  obtain ⟨h1, h2, h3⟩ := h
  refine fRk_eq _ h1 (fun k a q1 q2 q3 q4 => ?_) (fun q => ?_)
  · rcases he with e | e
    · have := h2 a (by omega)
      have := fDk_ge q4 _ q1 q2
      unfold fD at *
      omega
    · omega
  · obtain ⟨a, g1, g2⟩ := h3 q
    exact ⟨a, by omega, g2⟩
theorem fz_shr {x z k : Int32} {a p : Nat} (hx : x.toInt = (a : Int)) (ha : a < 65536) (hz : z.toInt = (p : Int)) (hp : p < 16) (hk : k.toInt = 1) : ((x >>> (z &&& 31)) &&& k).toInt = (if a.testBit p then 1 else 0) := by
  have e : ∀ p, p < 16 → ((nI p &&& 31).toBitVec.smod 32).toNat = p := by decide
  rw [sd_nI hx, sd_nI hz, sd_nI hk, pk_shrN (by omega) _ p (e p hp), sd_fand, Nat.and_one_is_mod]
  rw [nI_toInt (by omega), Nat.testBit_eq_decide_div_mod_eq]
  rcases Nat.mod_two_eq_zero_or_one (a / 2 ^ p) with q | q <;> simp [q]
theorem fz_pw : ∀ k, k < 5 → 1 ≤ 2 ^ k ∧ 2 ^ k ≤ 16 := by decide

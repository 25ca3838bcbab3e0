theorem sd_fe.tr {σ τ υ : sd_Mem} (h1 : sd_fe σ τ) (h2 : sd_fe τ υ) : sd_fe σ υ := fun i k a b => by rw [h2 i k a b, h1 i k a b]
theorem fEj_neg {β : sp_B} {f : Nat} {l : List Nat} {k a : Nat} {z : Int} (h : z = fEj β f l k a) (hz : z < 0) : (fE β f l k a).isSome = false := by
  unfold fEj at h
  cases hE : fE β f l k a with
  | none => rfl
  | some i => rw [hE] at h; dsimp only at h; omega
theorem fEj_pos {β : sp_B} {f : Nat} {l : List Nat} {k a : Nat} {z : Int} (h : z = fEj β f l k a) (hz : 0 ≤ z) : (fE β f l k a).isSome = true := by
  unfold fEj at h
  cases hE : fE β f l k a with
  | none => rw [hE] at h; dsimp only at h; omega
  | some i => rfl
def fRo (β : sp_B) (f : Nat) (l : List Nat) (y : Int) (k j : Nat) : Prop := (y = 0 ∧ (∀ k' a, k < k' → k' ≤ (β 7 f).toNat → a < l.length → (fE β f l k' a).isSome = false) ∧ ∀ a, a < j → (fE β f l k a).isSome = false) ∨ (0 < y ∧ y = (fR β f l : Int))
theorem fRo_nn {β : sp_B} {f : Nat} {l : List Nat} {y : Int} {k j : Nat} (h : fRo β f l y k j) : 0 ≤ y := by
  rcases h with h | h
  · omega
  · omega
theorem fRo_0 {β : sp_B} {f : Nat} {l : List Nat} {y : Int} (h : y = 0) : fRo β f l y (β 7 f).toNat 0 := Or.inl ⟨h, fun k' a q1 q2 => by omega, fun a q => absurd q (Nat.not_lt_zero a)⟩
theorem fRo_no {β : sp_B} {f : Nat} {l : List Nat} {y z : Int} {k j : Nat} (h : fRo β f l y k j) (hy : y = 0) (hz : z = 0) (hE : (fE β f l k j).isSome = false) : fRo β f l z k (j + 1) := by
  rcases h with ⟨h1, h2, h3⟩ | ⟨h1, -⟩
  · refine Or.inl ⟨hz, h2, fun a ha => ?_⟩
    by_cases e : a = j
    · subst e; exact hE
    · exact h3 a (by omega)
  · omega
theorem fRo_yes {β : sp_B} {f : Nat} {l : List Nat} {y z : Int} {k j : Nat} (h : fRo β f l y k j) (hy : y = 0) (h1 : 1 ≤ k) (hk : k ≤ (β 7 f).toNat) (hj : j < l.length) (hE : (fE β f l k j).isSome = true) (hz : z = (k : Int)) : fRo β f l z k (j + 1) := by
  rcases h with ⟨-, h2, -⟩ | ⟨h3, -⟩
  · refine Or.inr ⟨by omega, ?_⟩
    have : fR β f l = k := by
      unfold fR
      refine fRk_eq _ hk (fun k' a q1 q2 q3 q4 => ?_) (fun _ => ⟨j, hj, hE⟩)
      rcases Nat.lt_or_ge k k' with w | w
      · rw [h2 k' a w q2 q3] at q4; cases q4
      · exact w
    rw [this]; exact hz
  · omega
theorem fRo_row {β : sp_B} {f : Nat} {l : List Nat} {y : Int} {k j : Nat} (h : fRo β f l y k j) (hj : y ≠ 0 ∨ l.length ≤ j) (h1 : 1 ≤ k) : fRo β f l y (k - 1) 0 := by
  rcases h with ⟨h2, h3, h4⟩ | h
  · refine Or.inl ⟨h2, fun k' a q1 q2 q3 => ?_, fun a q => absurd q (Nat.not_lt_zero a)⟩
    by_cases e : k' = k
    · subst e; exact h4 a (by omega)
    · exact h3 k' a (by omega) q2 q3
  · exact Or.inr h
theorem fRo_end {β : sp_B} {f : Nat} {l : List Nat} {y : Int} {k : Nat} (h : fRo β f l y k 0) (hk : y ≠ 0 ∨ k = 0) : y = (fR β f l : Int) := by
  rcases h with ⟨h2, h3, -⟩ | h
  · have : fR β f l = 0 := by
      unfold fR
      refine fRk_eq _ (Nat.zero_le _) (fun k' a q1 q2 q3 q4 => ?_) (fun q => absurd q (Nat.lt_irrefl 0))
      rw [h3 k' a (by omega) q2 q3] at q4; cases q4
    rw [this]; exact h2
  · exact h.2
theorem fN_l120 {β : sp_B} (hG : sd_RG β) (f q : Nat) : (fN β f (sp_row β q)).length ≤ 120 := by
  have h1 := (sp_row_ok hG q).1
  have h2 := fw_len (β := β) (f := f) (l := sp_row β q) (sp_row β q).length
  unfold fN
  omega
theorem fN_mem {β : sp_B} {f : Nat} {l : List Nat} {i : Nat} (h : i < (fN β f l).length) : ((fN β f l).getD i (0, 0)).1 < l.length ∧ ((fN β f l).getD i (0, 0)).2 < l.length := by
  have hm : (fN β f l).getD i (0, 0) ∈ fw β f l l.length := by
    rw [List.getD_eq_getElem?_getD, List.getElem?_eq_getElem h]
    exact List.getElem_mem h
  have := fw_mem l.length (Nat.le_refl _) _ hm
  exact this
theorem fN_nil (β : sp_B) (f : Nat) : (fN β f []).length = 0 := rfl
def fwg (β : sp_B) (f : Nat) (x : Int) (q : Nat) : Int := if x = -1 ∨ (q : Int) = β 5 x.toNat then ((fN β f (sp_row β q)).length : Int) else 0
theorem fwg_rng {β : sp_B} (hG : sd_RG β) (f : Nat) (x : Int) (q : Nat) : 0 ≤ fwg β f x q ∧ fwg β f x q ≤ 120 := by
  have := fN_l120 hG f q
  unfold fwg
  split <;> omega
theorem fwg_t {β : sp_B} {f : Nat} {x : Int} {q : Nat} (h : x = -1 ∨ (q : Int) = β 5 x.toNat) : fwg β f x q = ((fN β f (sp_row β q)).length : Int) := by unfold fwg; rw [if_pos h]
theorem fwg_f {β : sp_B} {f : Nat} {x : Int} {q : Nat} (h : x ≠ -1) (h2 : (q : Int) ≠ β 5 x.toNat) : fwg β f x q = 0 := by unfold fwg; rw [if_neg (by omega)]
theorem fwg_j {β : sp_B} (hG : sd_RG β) {f : Nat} {x : Int} {q : Nat} (hq : q < 24) (h : β 5 q ≠ (q : Int)) : fwg β f x q = 0 := by
  unfold fwg
  rw [sp_joined_row hG hq h, fN_nil]
  split <;> rfl
theorem sp_sum_one {g : Nat → Int} {a : Nat} (h : ∀ q, q ≠ a → g q = 0) : ∀ n, sp_sum g n = if a < n then g a else 0
  | 0 => rfl
  | n + 1 => by
    rw [sp_sum, sp_sum_one h n]
    by_cases e : n = a
    · subst e; rw [if_neg (by omega), if_pos (by omega)]; omega
    · rw [h n e]
      by_cases q : a < n
      · rw [if_pos q, if_pos (by omega)]; omega
      · rw [if_neg q, if_neg (by omega)]; omega
theorem fwg_sum {β : sp_B} (hG : sd_RG β) {f : Nat} {x : Int} (hx : x = -1 ∨ (0 ≤ x ∧ x < 24)) : sp_sum (fwg β f x) 24 = if x = -1 then sp_sum (fun q => ((fN β f (sp_row β q)).length : Int)) 24 else ((fN β f (sp_row β (sp_q β x))).length : Int) := by
  by_cases e : x = -1
  · rw [if_pos e]
    exact sp_sum_cong (fun q _ => fwg_t (Or.inl e))
  · rw [if_neg e]
    have h5 := hG.2.2.1 x.toNat (by omega)
    have hq : β 5 x.toNat = (sp_q β x : Int) := by unfold sp_q; omega
    rw [sp_sum_one (g := fwg β f x) (a := sp_q β x) (fun q hne => fwg_f e (by omega)) 24, if_pos (by omega), fwg_t (Or.inr hq.symm)]
def fRg (β : sp_B) (f : Nat) (k : Int) (q : Nat) : Int := sp_b (fRb β f k q)
theorem fRg_rng (β : sp_B) (f : Nat) (k : Int) (q : Nat) : 0 ≤ fRg β f k q ∧ fRg β f k q ≤ 1 := by
  unfold fRg sp_b
  split <;> omega
theorem fRg_t {β : sp_B} {f : Nat} {k : Int} {q : Nat} (h1 : 0 < (sp_row β q).length) (h2 : k ≤ (fR β f (sp_row β q) : Int)) : fRg β f k q = 1 := by
  unfold fRg fRb
  rw [decide_eq_true h1, decide_eq_true h2]; rfl
theorem fRg_f {β : sp_B} {f : Nat} {k : Int} {q : Nat} (h : (sp_row β q).length = 0 ∨ (fR β f (sp_row β q) : Int) < k) : fRg β f k q = 0 := by
  unfold fRg fRb
  rcases h with h | h
  · rw [decide_eq_false (by omega)]; rfl
  · rw [decide_eq_false (by omega : ¬ k ≤ (fR β f (sp_row β q) : Int)), Bool.and_false]; rfl
theorem fRg_j {β : sp_B} (hG : sd_RG β) {f : Nat} {k : Int} {q : Nat} (hq : q < 24) (h : β 5 q ≠ (q : Int)) : fRg β f k q = 0 := fRg_f (Or.inl (by rw [sp_joined_row hG hq h]; rfl))
set_option maxRecDepth 20000 in
set_option maxHeartbeats 4000000 in
theorem c_X5_reachOf (l : Launch) (D : va_G) (ad : Nat → Nat) (ca : Nat → ClassId) (T : Nat → Nat) (σ : sd_Mem) (β : sp_B) (l9 : List Nat) (hW : sd_MW σ β l9) (f : Nat) (hf : f < 6) (x1 : Int32) (hx1 : x1.toInt = (f : Int)) : sd_Ci l yX5_reachOf cX5_reachOf 5 3 D ad ca T σ [.ref (ad 76), .int x1] (fun r σ' => r.toInt = (fR β f l9 : Int) ∧ sd_fe σ σ') := by
  refine sd_ent_i (own := RX5) (by decide) rfl (Nat.le_of_ble_eq_true rfl) (fun X C hret => ?_)
  show sd_Wd X 5 D ad ca σ [(0, .ref (ad 76)), (1, .int x1)] 0 []
  obtain ⟨hM, hG, hz, hrow, hl9, hlt⟩ := id hW
  have tg := hG.2.2.2.2.1 f hf
  have tk := (hM.2.2.2.2.1 f hf).2.2.2
  refine sd_iconst C dX5_reachOf_0 (by decide) (fun k0 ek0 => ?_)
  refine sd_istore_n (lv' := [(2, .int k0), (0, .ref (ad 76)), (1, .int x1)]) C dX5_reachOf_1 rfl (by decide) rfl ?_
  refine sd_aload_n C dX5_reachOf_2 1 rfl rfl ?_
  refine sd_get C (by decide) rfl rfl 11 (by decide) rfl wf_X5_38 dX5_reachOf_3 ?_
  refine sd_iload_n C dX5_reachOf_6 2 rfl rfl ?_
  refine sd_iald C (by decide) rfl (f) ⟨by omega, by omega⟩ dX5_reachOf_7 ?_
  refine sd_istore_n (lv' := [(3, .int (σ 86 (f))), (2, .int k0), (0, .ref (ad 76)), (1, .int x1)]) C dX5_reachOf_8 rfl (by decide) rfl ?_
  have key9 : ∀ (fu9 : Nat) (y2 : Int32) (y3 : Int32) (k : Nat) (τ : sd_Mem), (y3.toInt = (k : Int)) → (k ≤ (β 7 f).toNat) → (fRo β f l9 y2.toInt k 0) → (sd_fe σ τ) → (k < fu9) → sd_Wd X 5 D ad ca τ [(3, .int y3), (2, .int y2), (0, .ref (ad 76)), (1, .int x1)] 9 [] := by
    intro fu9
    induction fu9 with
    | zero => intro y2 y3 k τ h3 hk H fst hm9; exact absurd hm9 (Nat.not_lt_zero _)
    | succ fu9 ih9 =>
      intro y2 y3 k τ h3 hk H fst hm9
      have hy2 := fRo_nn H
      refine sd_iload_n C dX5_reachOf_9 0 rfl rfl ?_
      refine sd_if_le C 62 dX5_reachOf_10 (by decide) (fun c10 => ?_) (fun c10 => ?_)
      · refine sd_iload_n C dX5_reachOf_62 1 rfl rfl ?_
        exact hret _ _ _ _ dX5_reachOf_63 (⟨fRo_end H (by omega), fst⟩)
      · refine sd_iload_n C dX5_reachOf_13 1 rfl rfl ?_
        refine sd_if_ne C 62 dX5_reachOf_14 (by decide) (fun c14 => ?_) (fun c14 => ?_)
        · refine sd_iload_n C dX5_reachOf_62 1 rfl rfl ?_
          exact hret _ _ _ _ dX5_reachOf_63 (⟨fRo_end H (by omega), fst⟩)
        · refine sd_iconst C dX5_reachOf_17 (by decide) (fun k17 ek17 => ?_)
          refine sd_istore (lv' := [(4, .int k17), (3, .int y3), (2, .int y2), (0, .ref (ad 76)), (1, .int x1)]) C dX5_reachOf_18 (by decide) rfl ?_
          have key20 : ∀ (fu20 : Nat) (w2 : Int32) (y4 : Int32) (j : Nat) (υ : sd_Mem), (y4.toInt = (j : Int)) → (j ≤ l9.length) → (fRo β f l9 w2.toInt k j) → (sd_fe σ υ) → (l9.length - j < fu20) → sd_Wd X 5 D ad ca υ [(4, .int y4), (2, .int w2), (3, .int y3), (0, .ref (ad 76)), (1, .int x1)] 20 [] := by
            intro fu20
            induction fu20 with
            | zero => intro w2 y4 j υ h4 hj G fsu hm20; exact absurd hm20 (Nat.not_lt_zero _)
            | succ fu20 ih20 =>
              intro w2 y4 j υ h4 hj G fsu hm20
              have hy3 := fRo_nn G
              have hWu := sd_MW_fs fsu.fs hW
              have hzu := hWu.2.2.1
              refine sd_iload C dX5_reachOf_20 0 rfl ?_
              refine sd_aload_n C dX5_reachOf_22 3 rfl rfl ?_
              refine sd_get C (by decide) rfl rfl 15 (by decide) rfl wf_X5_86 dX5_reachOf_23 ?_
              refine sd_icmp_ge C 56 dX5_reachOf_26 (by decide) (fun c26 => ?_) (fun c26 => ?_)
              · refine sd_iinc C dX5_reachOf_56 2 rfl (by decide) (by decide) (by omega) (fun zz => [(3, .int zz), (4, .int y4), (2, .int w2), (0, .ref (ad 76)), (1, .int x1)]) (fun _ => rfl) (fun u56 eu56 => ?_)
                refine sd_goto C 9 dX5_reachOf_59 (by decide) ?_
                exact sd_lv (ih9 w2 u56 (k - 1) υ (by omega) (by omega) (fRo_row G (by omega) (by omega)) fsu (by omega)) [0, 2, 3, 4] rfl
              · refine sd_iload_n C dX5_reachOf_29 1 rfl rfl ?_
                refine sd_if_ne C 56 dX5_reachOf_30 (by decide) (fun c30 => ?_) (fun c30 => ?_)
                · refine sd_iinc C dX5_reachOf_56 2 rfl (by decide) (by decide) (by omega) (fun zz => [(3, .int zz), (4, .int y4), (2, .int w2), (0, .ref (ad 76)), (1, .int x1)]) (fun _ => rfl) (fun u56 eu56 => ?_)
                  refine sd_goto C 9 dX5_reachOf_59 (by decide) ?_
                  exact sd_lv (ih9 w2 u56 (k - 1) υ (by omega) (by omega) (fRo_row G (by omega) (by omega)) fsu (by omega)) [0, 2, 3, 4] rfl
                · refine sd_aload_n C dX5_reachOf_33 3 rfl rfl ?_
                  refine sd_iload_n C dX5_reachOf_34 4 rfl rfl ?_
                  refine sd_iload_n C dX5_reachOf_35 2 rfl rfl ?_
                  refine sd_iload C dX5_reachOf_36 0 rfl ?_
                  refine sd_callVi C (c_X5_endOf l D ad ca T υ β l9 hWu f hf k j (by omega) (by omega) (by omega) x1 y3 y4 hx1 h3 h4) mv_X5_endOf wm_X5_153 (by decide) rfl rfl (by decide) rfl rfl (Nat.le_of_ble_eq_true rfl) dX5_reachOf_38 (fun r38 s38 h38 => ?_)
                  try dsimp only at h38
                  obtain ⟨e1, e2⟩ := h38
                  refine sd_if_lt C 48 dX5_reachOf_41 (by decide) (fun c41 => ?_) (fun c41 => ?_)
                  · refine sd_iconst C dX5_reachOf_48 (by decide) (fun k48 ek48 => ?_)
                    refine sd_istore_n (lv' := [(2, .int k48), (4, .int y4), (3, .int y3), (0, .ref (ad 76)), (1, .int x1)]) C dX5_reachOf_49 rfl (by decide) rfl ?_
                    refine sd_iinc C dX5_reachOf_50 1 rfl (by decide) (by decide) (by omega) (fun zz => [(4, .int zz), (2, .int k48), (3, .int y3), (0, .ref (ad 76)), (1, .int x1)]) (fun _ => rfl) (fun u50 eu50 => ?_)
                    refine sd_goto C 20 dX5_reachOf_53 (by decide) ?_
                    exact ih20 k48 u50 (j + 1) s38 (by omega) (by omega) (fRo_no G (by omega) ek48 (fEj_neg e1 (by omega))) (fsu.tr e2) (by omega)
                  · refine sd_iload_n C dX5_reachOf_44 2 rfl rfl ?_
                    refine sd_goto C 49 dX5_reachOf_45 (by decide) ?_
                    refine sd_istore_n (lv' := [(2, .int y3), (4, .int y4), (3, .int y3), (0, .ref (ad 76)), (1, .int x1)]) C dX5_reachOf_49 rfl (by decide) rfl ?_
                    refine sd_iinc C dX5_reachOf_50 1 rfl (by decide) (by decide) (by omega) (fun zz => [(4, .int zz), (2, .int y3), (3, .int y3), (0, .ref (ad 76)), (1, .int x1)]) (fun _ => rfl) (fun u50 eu50 => ?_)
                    refine sd_goto C 20 dX5_reachOf_53 (by decide) ?_
                    exact ih20 y3 u50 (j + 1) s38 (by omega) (by omega) (fRo_yes G (by omega) (by omega) (by omega) (by omega) (fEj_pos e1 (by omega)) h3) (fsu.tr e2) (by omega)
          exact sd_lv (key20 _ y2 k17 0 τ (by omega) (by omega) H fst (Nat.lt_succ_self _)) [0, 2, 1, 3, 4] rfl
  exact key9 _ k0 (σ 86 (f)) (β 7 f).toNat σ (by omega) (by omega) (fRo_0 ek0) (sd_fe.rf σ) (Nat.lt_succ_self _)

set_option maxRecDepth 20000 in
set_option maxHeartbeats 4000000 in
theorem c_X5_ways (l : Launch) (D : va_G) (ad : Nat → Nat) (ca : Nat → ClassId) (T : Nat → Nat) (σ : sd_Mem) (β : sp_B) (hM : sd_MR σ β) (hG : sd_RG β) (x1 x2 : Int32) : sd_Ci l yX5_ways cX5_ways 6 4 D ad ca T σ [.ref (ad 76), .int x1, .int x2] (fun r σ' => r.toInt = an_ways β x1.toInt x2.toInt ∧ sd_MR σ' β ∧ sd_lo σ σ') := by
  refine sd_ent_i (own := RX5) (by decide) rfl (Nat.le_of_ble_eq_true rfl) (fun X C hret => ?_)
  show sd_Wd X 6 D ad ca σ [(0, .ref (ad 76)), (1, .int x1), (2, .int x2)] 0 []
  have hN := sp_n_le hG
  have hn1 := hM.1.1
  have hn2 := hM.1.2
  have n3 := hG.1
  have key29 : ∀ (fu29 : Nat) (y3 : Int32) (y4 : Int32) (p : Nat) (τ : sd_Mem), (0 ≤ x1.toInt ∧ x1.toInt < β 0 1) → (x2.toInt = -1 ∨ (0 ≤ x2.toInt ∧ x2.toInt < 24)) → (y4.toInt = (p : Int)) → (p ≤ 24) → (y3.toInt = sp_sum (fwg β x1.toInt.toNat x2.toInt) p) → (sd_MR τ β) → (sd_lo σ τ) → (24 - p < fu29) → sd_Wd X 6 D ad ca τ [(4, .int y4), (3, .int y3), (0, .ref (ad 76)), (1, .int x1), (2, .int x2)] 29 [] := by
    intro fu29
    induction fu29 with
    | zero => intro y3 y4 p τ hff hx h4 hp h3 hMt hlt hm29; exact absurd hm29 (Nat.not_lt_zero _)
    | succ fu29 ih29 =>
      intro y3 y4 p τ hff hx h4 hp h3 hMt hlt hm29
      have hr := sp_sum_rng (f := (fwg β x1.toInt.toNat x2.toInt)) (m := 120) (fun q => fwg_rng hG x1.toInt.toNat x2.toInt q) p
      refine sd_iload C dX5_ways_29 0 rfl ?_
      refine sd_bipush C dX5_ways_31 (by decide) (fun k31 ek31 => ?_)
      refine sd_icmp_ge C 105 dX5_ways_33 (by decide) (fun c33 => ?_) (fun c33 => ?_)
      · refine sd_iload_n C dX5_ways_105 1 rfl rfl ?_
        exact hret _ _ _ _ dX5_ways_106 (⟨by
            have ep : p = 24 := by omega
            rw [ep] at h3
            unfold an_ways
            rw [if_neg (by omega), h3]
            exact fwg_sum hG hx, hMt, hlt⟩)
      · have j1 := hMt.2.2.1 p (by omega)
        have fl := fN_l120 hG x1.toInt.toNat p
        refine sd_iload_n C dX5_ways_36 4 rfl rfl ?_
        refine sd_iconst C dX5_ways_37 (by decide) (fun k37 ek37 => ?_)
        refine sd_icmp_ne C 59 dX5_ways_38 (by decide) (fun c38 => ?_) (fun c38 => ?_)
        · refine sd_iload C dX5_ways_59 0 rfl ?_
          refine sd_aload_n C dX5_ways_61 2 rfl rfl ?_
          refine sd_iload_n C dX5_ways_62 4 rfl rfl ?_
          refine sd_pVi C (c_X5_personOf l D ad ca T τ β hMt hG x2.toInt.toNat (by omega) x2 (by omega)) mv_X5_personOf wm_X5_89 (by decide) rfl rfl (by decide) rfl rfl (Nat.le_of_ble_eq_true rfl) dX5_ways_63 (fun r63 h63 => ?_)
          try dsimp only at h63
          refine sd_icmp_ne C 73 dX5_ways_66 (by decide) (fun c66 => ?_) (fun c66 => ?_)
          · refine sd_iconst C dX5_ways_73 (by decide) (fun k73 ek73 => ?_)
            refine sd_istore (lv' := [(5, .int k73), (4, .int y4), (3, .int y3), (0, .ref (ad 76)), (1, .int x1), (2, .int x2)]) C dX5_ways_74 (by decide) rfl ?_
            refine sd_iload C dX5_ways_76 0 rfl ?_
            refine sd_if_eq C 99 dX5_ways_78 (by decide) (fun c78 => ?_) (fun c78 => ?_)
            · refine sd_iinc C dX5_ways_99 1 rfl (by decide) (by decide) (by omega) (fun zz => [(4, .int zz), (5, .int k73), (3, .int y3), (0, .ref (ad 76)), (1, .int x1), (2, .int x2)]) (fun _ => rfl) (fun u99 eu99 => ?_)
              refine sd_goto C 29 dX5_ways_102 (by decide) ?_
              exact sd_lv (ih29 y3 u99 (p + 1) τ (by omega) (by omega) (by omega) (by omega) (by first | (rw [sp_sum_s (fwg_j hG (by omega) (by omega))]; omega) | (rw [sp_sum_s (fwg_f (by omega) (by omega))]; omega) | (rw [sp_sum_s (fwg_t (by omega))]; omega)) hMt hlt (by omega)) [0, 2, 3, 4, 5] rfl
            · exact absurd c78 (by omega)
          · refine sd_iconst C dX5_ways_69 (by decide) (fun k69 ek69 => ?_)
            refine sd_goto C 74 dX5_ways_70 (by decide) ?_
            refine sd_istore (lv' := [(5, .int k69), (4, .int y4), (3, .int y3), (0, .ref (ad 76)), (1, .int x1), (2, .int x2)]) C dX5_ways_74 (by decide) rfl ?_
            refine sd_iload C dX5_ways_76 0 rfl ?_
            refine sd_if_eq C 99 dX5_ways_78 (by decide) (fun c78 => ?_) (fun c78 => ?_)
            · exact absurd c78 (by omega)
            · refine sd_aload_n C dX5_ways_81 3 rfl rfl ?_
              refine sd_iload C dX5_ways_82 1 rfl ?_
              refine sd_callVv C (c_X5_gather l D ad ca T τ β hMt hG p (by omega) y4 (by omega)) mv_X5_gather wm_X5_109 (by decide) rfl rfl (by decide) rfl rfl (Nat.le_of_ble_eq_true rfl) dX5_ways_84 (fun s84 h84 => ?_)
              try dsimp only at h84
              obtain ⟨hA, hfr⟩ := h84
              have hMg := sd_MR_fr (sd_ga_keep hfr) hMt
              have hlo := hlt.tr (sd_ga_lo hfr)
              obtain ⟨A1, A2, A3, A4, A5⟩ := id hA
              have hW := hA.mw hMg hG
              refine sd_aload_n C dX5_ways_87 3 rfl rfl ?_
              refine sd_iload_n C dX5_ways_88 4 rfl rfl ?_
              refine sd_callVv C (c_X5_findWays l D ad ca T s84 β (sp_row β p) hW x1.toInt.toNat (by omega) x1 (by omega)) mv_X5_findWays wm_X5_157 (by decide) rfl rfl (by decide) rfl rfl (Nat.le_of_ble_eq_true rfl) dX5_ways_89 (fun s89 h89 => ?_)
              try dsimp only at h89
              obtain ⟨g1, g2, g3⟩ := h89
              have hMw := sd_MR_fr g3.keep hMg
              have hlw := hlo.tr g3.lo
              refine sd_iload_n C dX5_ways_92 2 rfl rfl ?_
              refine sd_aload_n C dX5_ways_93 3 rfl rfl ?_
              refine sd_get C (by decide) rfl rfl 22 (by decide) rfl wf_X5_150 dX5_ways_94 ?_
              refine sd_iadd C dX5_ways_97 (by omega) (fun z97 ez97 => ?_)
              refine sd_istore_n (lv' := [(3, .int z97), (5, .int k69), (4, .int y4), (0, .ref (ad 76)), (1, .int x1), (2, .int x2)]) C dX5_ways_98 rfl (by decide) rfl ?_
              refine sd_iinc C dX5_ways_99 2 rfl (by decide) (by decide) (by omega) (fun zz => [(4, .int zz), (3, .int z97), (5, .int k69), (0, .ref (ad 76)), (1, .int x1), (2, .int x2)]) (fun _ => rfl) (fun u99 eu99 => ?_)
              refine sd_goto C 29 dX5_ways_102 (by decide) ?_
              exact sd_lv (ih29 z97 u99 (p + 1) s89 (by omega) (by omega) (by omega) (by omega) (by first | (rw [sp_sum_s (fwg_j hG (by omega) (by omega))]; omega) | (rw [sp_sum_s (fwg_f (by omega) (by omega))]; omega) | (rw [sp_sum_s (fwg_t (by omega))]; omega)) hMw hlw (by omega)) [0, 1, 3, 4, 5] rfl
        · refine sd_aload_n C dX5_ways_41 2 rfl rfl ?_
          refine sd_get C (by decide) rfl rfl 5 (by decide) rfl wf_X5_23 dX5_ways_42 ?_
          refine sd_iload C dX5_ways_45 0 rfl ?_
          refine sd_iald C (by decide) rfl (p) ⟨by omega, by omega⟩ dX5_ways_47 ?_
          refine sd_if_ge C 55 dX5_ways_48 (by decide) (fun c48 => ?_) (fun c48 => ?_)
          · refine sd_iconst C dX5_ways_55 (by decide) (fun k55 ek55 => ?_)
            refine sd_goto C 74 dX5_ways_56 (by decide) ?_
            refine sd_istore (lv' := [(5, .int k55), (4, .int y4), (3, .int y3), (0, .ref (ad 76)), (1, .int x1), (2, .int x2)]) C dX5_ways_74 (by decide) rfl ?_
            refine sd_iload C dX5_ways_76 0 rfl ?_
            refine sd_if_eq C 99 dX5_ways_78 (by decide) (fun c78 => ?_) (fun c78 => ?_)
            · refine sd_iinc C dX5_ways_99 1 rfl (by decide) (by decide) (by omega) (fun zz => [(4, .int zz), (5, .int k55), (3, .int y3), (0, .ref (ad 76)), (1, .int x1), (2, .int x2)]) (fun _ => rfl) (fun u99 eu99 => ?_)
              refine sd_goto C 29 dX5_ways_102 (by decide) ?_
              exact sd_lv (ih29 y3 u99 (p + 1) τ (by omega) (by omega) (by omega) (by omega) (by first | (rw [sp_sum_s (fwg_j hG (by omega) (by omega))]; omega) | (rw [sp_sum_s (fwg_f (by omega) (by omega))]; omega) | (rw [sp_sum_s (fwg_t (by omega))]; omega)) hMt hlt (by omega)) [0, 2, 3, 4, 5] rfl
            · exact absurd c78 (by omega)
          · refine sd_iconst C dX5_ways_51 (by decide) (fun k51 ek51 => ?_)
            refine sd_goto C 74 dX5_ways_52 (by decide) ?_
            refine sd_istore (lv' := [(5, .int k51), (4, .int y4), (3, .int y3), (0, .ref (ad 76)), (1, .int x1), (2, .int x2)]) C dX5_ways_74 (by decide) rfl ?_
            refine sd_iload C dX5_ways_76 0 rfl ?_
            refine sd_if_eq C 99 dX5_ways_78 (by decide) (fun c78 => ?_) (fun c78 => ?_)
            · exact absurd c78 (by omega)
            · refine sd_aload_n C dX5_ways_81 3 rfl rfl ?_
              refine sd_iload C dX5_ways_82 1 rfl ?_
              refine sd_callVv C (c_X5_gather l D ad ca T τ β hMt hG p (by omega) y4 (by omega)) mv_X5_gather wm_X5_109 (by decide) rfl rfl (by decide) rfl rfl (Nat.le_of_ble_eq_true rfl) dX5_ways_84 (fun s84 h84 => ?_)
              try dsimp only at h84
              obtain ⟨hA, hfr⟩ := h84
              have hMg := sd_MR_fr (sd_ga_keep hfr) hMt
              have hlo := hlt.tr (sd_ga_lo hfr)
              obtain ⟨A1, A2, A3, A4, A5⟩ := id hA
              have hW := hA.mw hMg hG
              refine sd_aload_n C dX5_ways_87 3 rfl rfl ?_
              refine sd_iload_n C dX5_ways_88 4 rfl rfl ?_
              refine sd_callVv C (c_X5_findWays l D ad ca T s84 β (sp_row β p) hW x1.toInt.toNat (by omega) x1 (by omega)) mv_X5_findWays wm_X5_157 (by decide) rfl rfl (by decide) rfl rfl (Nat.le_of_ble_eq_true rfl) dX5_ways_89 (fun s89 h89 => ?_)
              try dsimp only at h89
              obtain ⟨g1, g2, g3⟩ := h89
              have hMw := sd_MR_fr g3.keep hMg
              have hlw := hlo.tr g3.lo
              refine sd_iload_n C dX5_ways_92 2 rfl rfl ?_
              refine sd_aload_n C dX5_ways_93 3 rfl rfl ?_
              refine sd_get C (by decide) rfl rfl 22 (by decide) rfl wf_X5_150 dX5_ways_94 ?_
              refine sd_iadd C dX5_ways_97 (by omega) (fun z97 ez97 => ?_)
              refine sd_istore_n (lv' := [(3, .int z97), (5, .int k51), (4, .int y4), (0, .ref (ad 76)), (1, .int x1), (2, .int x2)]) C dX5_ways_98 rfl (by decide) rfl ?_
              refine sd_iinc C dX5_ways_99 2 rfl (by decide) (by decide) (by omega) (fun zz => [(4, .int zz), (3, .int z97), (5, .int k51), (0, .ref (ad 76)), (1, .int x1), (2, .int x2)]) (fun _ => rfl) (fun u99 eu99 => ?_)
              refine sd_goto C 29 dX5_ways_102 (by decide) ?_
              exact sd_lv (ih29 z97 u99 (p + 1) s89 (by omega) (by omega) (by omega) (by omega) (by first | (rw [sp_sum_s (fwg_j hG (by omega) (by omega))]; omega) | (rw [sp_sum_s (fwg_f (by omega) (by omega))]; omega) | (rw [sp_sum_s (fwg_t (by omega))]; omega)) hMw hlw (by omega)) [0, 1, 3, 4, 5] rfl
  refine sd_aload_n C dX5_ways_0 0 rfl rfl ?_
  refine sd_iload_n C dX5_ways_1 1 rfl rfl ?_
  refine sd_pVz C (c_X5_isFunnel l D ad ca T σ x1 (by omega)) mv_X5_isFunnel wm_X5_137 (by decide) rfl rfl (by decide) rfl rfl (Nat.le_of_ble_eq_true rfl) dX5_ways_2 (fun r2 h2 => ?_)
  try dsimp only at h2
  refine sd_if_eq C 20 dX5_ways_5 (by decide) (fun c5 => ?_) (fun c5 => ?_)
  · refine sd_sipush C dX5_ways_20 (by decide) (fun k20 ek20 => ?_)
    exact hret _ _ _ _ dX5_ways_23 (⟨by
        unfold an_ways
        repeat' split
        all_goals omega, hM, fun _ _ _ => rfl⟩)
  · refine sd_iload_n C dX5_ways_8 2 rfl rfl ?_
    refine sd_iconst C dX5_ways_9 (by decide) (fun k9 ek9 => ?_)
    refine sd_icmp_eq C 24 dX5_ways_10 (by decide) (fun c10 => ?_) (fun c10 => ?_)
    · refine sd_iconst C dX5_ways_24 (by decide) (fun k24 ek24 => ?_)
      refine sd_istore_n (lv' := [(3, .int k24), (0, .ref (ad 76)), (1, .int x1), (2, .int x2)]) C dX5_ways_25 rfl (by decide) rfl ?_
      refine sd_iconst C dX5_ways_26 (by decide) (fun k26 ek26 => ?_)
      refine sd_istore (lv' := [(4, .int k26), (3, .int k24), (0, .ref (ad 76)), (1, .int x1), (2, .int x2)]) C dX5_ways_27 (by decide) rfl ?_
      exact key29 _ k24 k26 0 σ (by omega) (by omega) (by omega) (by omega) (by rw [sp_sum]; omega) hM (fun _ _ _ => rfl) (Nat.lt_succ_self _)
    · refine sd_iload_n C dX5_ways_13 2 rfl rfl ?_
      refine sd_pSz C (c_X5_isWho l D ad ca T σ x2) mv_X5_isWho wm_X5_69 (by decide) rfl rfl (Nat.le_of_ble_eq_true rfl) dX5_ways_14 (fun r14 h14 => ?_)
      try dsimp only at h14
      refine sd_if_ne C 24 dX5_ways_17 (by decide) (fun c17 => ?_) (fun c17 => ?_)
      · refine sd_iconst C dX5_ways_24 (by decide) (fun k24 ek24 => ?_)
        refine sd_istore_n (lv' := [(3, .int k24), (0, .ref (ad 76)), (1, .int x1), (2, .int x2)]) C dX5_ways_25 rfl (by decide) rfl ?_
        refine sd_iconst C dX5_ways_26 (by decide) (fun k26 ek26 => ?_)
        refine sd_istore (lv' := [(4, .int k26), (3, .int k24), (0, .ref (ad 76)), (1, .int x1), (2, .int x2)]) C dX5_ways_27 (by decide) rfl ?_
        exact key29 _ k24 k26 0 σ (by omega) (by omega) (by omega) (by omega) (by rw [sp_sum]; omega) hM (fun _ _ _ => rfl) (Nat.lt_succ_self _)
      · refine sd_sipush C dX5_ways_20 (by decide) (fun k20 ek20 => ?_)
        exact hret _ _ _ _ dX5_ways_23 (⟨by
            unfold an_ways
            repeat' split
            all_goals omega, hM, fun _ _ _ => rfl⟩)

set_option maxRecDepth 20000 in
set_option maxHeartbeats 4000000 in
theorem c_X5_way (l : Launch) (D : va_G) (ad : Nat → Nat) (ca : Nat → ClassId) (T : Nat → Nat) (σ : sd_Mem) (β : sp_B) (hM : sd_MR σ β) (hG : sd_RG β) (x1 x2 x3 x4 : Int32) : sd_Ci l yX5_way cX5_way 5 4 D ad ca T σ [.ref (ad 76), .int x1, .int x2, .int x3, .int x4] (fun r σ' => r.toInt = an_way β x1.toInt x2.toInt x3.toInt x4.toInt ∧ sd_MR σ' β ∧ sd_lo σ σ') := by
  refine sd_ent_i (own := RX5) (by decide) rfl (Nat.le_of_ble_eq_true rfl) (fun X C hret => ?_)
  show sd_Wd X 5 D ad ca σ [(0, .ref (ad 76)), (1, .int x1), (2, .int x2), (3, .int x3), (4, .int x4)] 0 []
  have hN := sp_n_le hG
  have hn1 := hM.1.1
  have hn2 := hM.1.2
  have n3 := hG.1
  refine sd_aload_n C dX5_way_0 0 rfl rfl ?_
  refine sd_iload_n C dX5_way_1 1 rfl rfl ?_
  refine sd_pVz C (c_X5_isFunnel l D ad ca T σ x1 (by omega)) mv_X5_isFunnel wm_X5_137 (by decide) rfl rfl (by decide) rfl rfl (Nat.le_of_ble_eq_true rfl) dX5_way_2 (fun r2 h2 => ?_)
  try dsimp only at h2
  refine sd_if_eq C 15 dX5_way_5 (by decide) (fun c5 => ?_) (fun c5 => ?_)
  · refine sd_sipush C dX5_way_15 (by decide) (fun k15 ek15 => ?_)
    exact hret _ _ _ _ dX5_way_18 (⟨by
        unfold an_way
        repeat' split
        all_goals omega, hM, fun _ _ _ => rfl⟩)
  · refine sd_iload_n C dX5_way_8 2 rfl rfl ?_
    refine sd_pSz C (c_X5_isWho l D ad ca T σ x2) mv_X5_isWho wm_X5_69 (by decide) rfl rfl (Nat.le_of_ble_eq_true rfl) dX5_way_9 (fun r9 h9 => ?_)
    try dsimp only at h9
    refine sd_if_ne C 19 dX5_way_12 (by decide) (fun c12 => ?_) (fun c12 => ?_)
    · have p2 := hG.2.2.1 x2.toInt.toNat (by omega)
      have hq : sp_q β x2.toInt < 24 := by unfold sp_q; omega
      have hqe : β 5 x2.toInt.toNat = (sp_q β x2.toInt : Int) := by unfold sp_q; omega
      have hok := sp_row_ok hG (sp_q β x2.toInt)
      have fl := fN_l120 hG x1.toInt.toNat (sp_q β x2.toInt)
      refine sd_aload_n C dX5_way_19 0 rfl rfl ?_
      refine sd_aload_n C dX5_way_20 0 rfl rfl ?_
      refine sd_iload_n C dX5_way_21 2 rfl rfl ?_
      refine sd_pVi C (c_X5_personOf l D ad ca T σ β hM hG x2.toInt.toNat (by omega) x2 (by omega)) mv_X5_personOf wm_X5_89 (by decide) rfl rfl (by decide) rfl rfl (Nat.le_of_ble_eq_true rfl) dX5_way_22 (fun r22 h22 => ?_)
      try dsimp only at h22
      refine sd_callVv C (c_X5_gather l D ad ca T σ β hM hG (sp_q β x2.toInt) hq r22 (by omega)) mv_X5_gather wm_X5_109 (by decide) rfl rfl (by decide) rfl rfl (Nat.le_of_ble_eq_true rfl) dX5_way_25 (fun s25 h25 => ?_)
      try dsimp only at h25
      obtain ⟨hA, hfr⟩ := h25
      have hMg := sd_MR_fr (sd_ga_keep hfr) hM
      have hlo := sd_ga_lo hfr
      obtain ⟨A1, A2, A3, A4, A5⟩ := id hA
      have hW := hA.mw hMg hG
      refine sd_aload_n C dX5_way_28 0 rfl rfl ?_
      refine sd_iload_n C dX5_way_29 1 rfl rfl ?_
      refine sd_callVv C (c_X5_findWays l D ad ca T s25 β (sp_row β (sp_q β x2.toInt)) hW x1.toInt.toNat (by omega) x1 (by omega)) mv_X5_findWays wm_X5_157 (by decide) rfl rfl (by decide) rfl rfl (Nat.le_of_ble_eq_true rfl) dX5_way_30 (fun s30 h30 => ?_)
      try dsimp only at h30
      obtain ⟨g1, g2, g3⟩ := h30
      have hMw := sd_MR_fr g3.keep hMg
      have hlw := hlo.tr g3.lo
      refine sd_iload_n C dX5_way_33 3 rfl rfl ?_
      refine sd_i2l C dX5_way_34 (fun g34 eg34 => ?_)
      refine sd_lconst C dX5_way_35 (z := 0) (by decide) (fun k35 ek35 => ?_)
      refine sd_aload_n C dX5_way_36 0 rfl rfl ?_
      refine sd_get C (by decide) rfl rfl 22 (by decide) rfl wf_X5_150 dX5_way_37 ?_
      refine sd_iconst C dX5_way_40 (by decide) (fun k40 ek40 => ?_)
      refine sd_isub C dX5_way_41 (by omega) (fun z41 ez41 => ?_)
      refine sd_i2l C dX5_way_42 (fun g42 eg42 => ?_)
      refine sd_pSz C (c_X5_in l D ad ca T s30 g34 k35 g42) mv_X5_in wm_X5_61 (by decide) rfl rfl (Nat.le_of_ble_eq_true rfl) dX5_way_43 (fun r43 h43 => ?_)
      try dsimp only at h43
      refine sd_if_ne C 53 dX5_way_46 (by decide) (fun c46 => ?_) (fun c46 => ?_)
      · have u1 := g2 x3.toInt.toNat (by omega)
        have u2 := fN_mem (β := β) (f := x1.toInt.toNat) (l := sp_row β (sp_q β x2.toInt)) (i := x3.toInt.toNat) (by omega)
        have u3 := A2 ((fN β x1.toInt.toNat (sp_row β (sp_q β x2.toInt))).getD x3.toInt.toNat (0, 0)).1 u2.1
        have u4 := A2 ((fN β x1.toInt.toNat (sp_row β (sp_q β x2.toInt))).getD x3.toInt.toNat (0, 0)).2 u2.2
        rw [← g3 88 ((fN β x1.toInt.toNat (sp_row β (sp_q β x2.toInt))).getD x3.toInt.toNat (0, 0)).1 (by omega) (by omega)] at u3
        rw [← g3 88 ((fN β x1.toInt.toNat (sp_row β (sp_q β x2.toInt))).getD x3.toInt.toNat (0, 0)).2 (by omega) (by omega)] at u4
        refine sd_iload C dX5_way_53 4 rfl ?_
        refine sd_if_ne C 72 dX5_way_55 (by decide) (fun c55 => ?_) (fun c55 => ?_)
        · refine sd_iload C dX5_way_72 4 rfl ?_
          refine sd_iconst C dX5_way_74 (by decide) (fun k74 ek74 => ?_)
          refine sd_icmp_ne C 92 dX5_way_75 (by decide) (fun c75 => ?_) (fun c75 => ?_)
          · refine sd_sipush C dX5_way_92 (by decide) (fun k92 ek92 => ?_)
            exact hret _ _ _ _ dX5_way_95 (⟨by
                unfold an_way
                repeat' split
                all_goals omega, hMw, hlw⟩)
          · refine sd_aload_n C dX5_way_78 0 rfl rfl ?_
            refine sd_get C (by decide) rfl rfl 13 (by decide) rfl wf_X5_44 dX5_way_79 ?_
            refine sd_aload_n C dX5_way_82 0 rfl rfl ?_
            refine sd_get C (by decide) rfl rfl 21 (by decide) rfl wf_X5_56 dX5_way_83 ?_
            refine sd_iload_n C dX5_way_86 3 rfl rfl ?_
            refine sd_iald C (by decide) rfl (x3.toInt.toNat) ⟨by omega, by omega⟩ dX5_way_87 ?_
            refine sd_iald C (by decide) rfl (((fN β x1.toInt.toNat (sp_row β (sp_q β x2.toInt))).getD x3.toInt.toNat (0, 0)).2) ⟨by omega, by omega⟩ dX5_way_88 ?_
            refine sd_goto C 95 dX5_way_89 (by decide) ?_
            exact hret _ _ _ _ dX5_way_95 (⟨by
                unfold an_way
                repeat' split
                all_goals omega, hMw, hlw⟩)
        · refine sd_aload_n C dX5_way_58 0 rfl rfl ?_
          refine sd_get C (by decide) rfl rfl 13 (by decide) rfl wf_X5_44 dX5_way_59 ?_
          refine sd_aload_n C dX5_way_62 0 rfl rfl ?_
          refine sd_get C (by decide) rfl rfl 20 (by decide) rfl wf_X5_53 dX5_way_63 ?_
          refine sd_iload_n C dX5_way_66 3 rfl rfl ?_
          refine sd_iald C (by decide) rfl (x3.toInt.toNat) ⟨by omega, by omega⟩ dX5_way_67 ?_
          refine sd_iald C (by decide) rfl (((fN β x1.toInt.toNat (sp_row β (sp_q β x2.toInt))).getD x3.toInt.toNat (0, 0)).1) ⟨by omega, by omega⟩ dX5_way_68 ?_
          refine sd_goto C 95 dX5_way_69 (by decide) ?_
          exact hret _ _ _ _ dX5_way_95 (⟨by
              unfold an_way
              repeat' split
              all_goals omega, hMw, hlw⟩)
      · refine sd_sipush C dX5_way_49 (by decide) (fun k49 ek49 => ?_)
        exact hret _ _ _ _ dX5_way_52 (⟨by
            unfold an_way
            repeat' split
            all_goals omega, hMw, hlw⟩)
    · refine sd_sipush C dX5_way_15 (by decide) (fun k15 ek15 => ?_)
      exact hret _ _ _ _ dX5_way_18 (⟨by
          unfold an_way
          repeat' split
          all_goals omega, hM, fun _ _ _ => rfl⟩)

set_option maxRecDepth 20000 in
set_option maxHeartbeats 4000000 in
theorem c_X5_reach (l : Launch) (D : va_G) (ad : Nat → Nat) (ca : Nat → ClassId) (T : Nat → Nat) (σ : sd_Mem) (β : sp_B) (hM : sd_MR σ β) (hG : sd_RG β) (x1 x2 : Int32) : sd_Ci l yX5_reach cX5_reach 3 4 D ad ca T σ [.ref (ad 76), .int x1, .int x2] (fun r σ' => r.toInt = an_reach β x1.toInt x2.toInt ∧ sd_MR σ' β ∧ sd_lo σ σ') := by
  refine sd_ent_i (own := RX5) (by decide) rfl (Nat.le_of_ble_eq_true rfl) (fun X C hret => ?_)
  show sd_Wd X 3 D ad ca σ [(0, .ref (ad 76)), (1, .int x1), (2, .int x2)] 0 []
  have hN := sp_n_le hG
  have hn1 := hM.1.1
  have hn2 := hM.1.2
  have n3 := hG.1
  refine sd_aload_n C dX5_reach_0 0 rfl rfl ?_
  refine sd_iload_n C dX5_reach_1 1 rfl rfl ?_
  refine sd_pVz C (c_X5_isFunnel l D ad ca T σ x1 (by omega)) mv_X5_isFunnel wm_X5_137 (by decide) rfl rfl (by decide) rfl rfl (Nat.le_of_ble_eq_true rfl) dX5_reach_2 (fun r2 h2 => ?_)
  try dsimp only at h2
  refine sd_if_eq C 15 dX5_reach_5 (by decide) (fun c5 => ?_) (fun c5 => ?_)
  · refine sd_sipush C dX5_reach_15 (by decide) (fun k15 ek15 => ?_)
    exact hret _ _ _ _ dX5_reach_18 (⟨by
        unfold an_reach
        repeat' split
        all_goals omega, hM, fun _ _ _ => rfl⟩)
  · refine sd_iload_n C dX5_reach_8 2 rfl rfl ?_
    refine sd_pSz C (c_X5_isWho l D ad ca T σ x2) mv_X5_isWho wm_X5_69 (by decide) rfl rfl (Nat.le_of_ble_eq_true rfl) dX5_reach_9 (fun r9 h9 => ?_)
    try dsimp only at h9
    refine sd_if_ne C 19 dX5_reach_12 (by decide) (fun c12 => ?_) (fun c12 => ?_)
    · have p2 := hG.2.2.1 x2.toInt.toNat (by omega)
      have hq : sp_q β x2.toInt < 24 := by unfold sp_q; omega
      have hqe : β 5 x2.toInt.toNat = (sp_q β x2.toInt : Int) := by unfold sp_q; omega
      have hok := sp_row_ok hG (sp_q β x2.toInt)
      refine sd_aload_n C dX5_reach_19 0 rfl rfl ?_
      refine sd_aload_n C dX5_reach_20 0 rfl rfl ?_
      refine sd_iload_n C dX5_reach_21 2 rfl rfl ?_
      refine sd_pVi C (c_X5_personOf l D ad ca T σ β hM hG x2.toInt.toNat (by omega) x2 (by omega)) mv_X5_personOf wm_X5_89 (by decide) rfl rfl (by decide) rfl rfl (Nat.le_of_ble_eq_true rfl) dX5_reach_22 (fun r22 h22 => ?_)
      try dsimp only at h22
      refine sd_callVv C (c_X5_gather l D ad ca T σ β hM hG (sp_q β x2.toInt) hq r22 (by omega)) mv_X5_gather wm_X5_109 (by decide) rfl rfl (by decide) rfl rfl (Nat.le_of_ble_eq_true rfl) dX5_reach_25 (fun s25 h25 => ?_)
      try dsimp only at h25
      obtain ⟨hA, hfr⟩ := h25
      have hMg := sd_MR_fr (sd_ga_keep hfr) hM
      have hlo := sd_ga_lo hfr
      obtain ⟨A1, A2, A3, A4, A5⟩ := id hA
      have hW := hA.mw hMg hG
      refine sd_aload_n C dX5_reach_28 0 rfl rfl ?_
      refine sd_iload_n C dX5_reach_29 1 rfl rfl ?_
      refine sd_callVi C (c_X5_reachOf l D ad ca T s25 β (sp_row β (sp_q β x2.toInt)) hW x1.toInt.toNat (by omega) x1 (by omega)) mv_X5_reachOf wm_X5_160 (by decide) rfl rfl (by decide) rfl rfl (Nat.le_of_ble_eq_true rfl) dX5_reach_30 (fun r30 s30 h30 => ?_)
      try dsimp only at h30
      obtain ⟨g1, g3⟩ := h30
      have hMw := sd_MR_fr g3.fs.keep hMg
      have hlw := hlo.tr g3.fs.lo
      exact hret _ _ _ _ dX5_reach_33 (⟨by
          unfold an_reach
          repeat' split
          all_goals omega, hMw, hlw⟩)
    · refine sd_sipush C dX5_reach_15 (by decide) (fun k15 ek15 => ?_)
      exact hret _ _ _ _ dX5_reach_18 (⟨by
          unfold an_reach
          repeat' split
          all_goals omega, hM, fun _ _ _ => rfl⟩)

set_option maxRecDepth 20000 in
set_option maxHeartbeats 4000000 in
theorem c_X5_reached (l : Launch) (D : va_G) (ad : Nat → Nat) (ca : Nat → ClassId) (T : Nat → Nat) (σ : sd_Mem) (β : sp_B) (hM : sd_MR σ β) (hG : sd_RG β) (x1 x2 : Int32) : sd_Ci l yX5_reached cX5_reached 5 4 D ad ca T σ [.ref (ad 76), .int x1, .int x2] (fun r σ' => r.toInt = an_reached β x1.toInt x2.toInt ∧ sd_MR σ' β ∧ sd_lo σ σ') := by
  refine sd_ent_i (own := RX5) (by decide) rfl (Nat.le_of_ble_eq_true rfl) (fun X C hret => ?_)
  show sd_Wd X 5 D ad ca σ [(0, .ref (ad 76)), (1, .int x1), (2, .int x2)] 0 []
  have hN := sp_n_le hG
  have hn1 := hM.1.1
  have hn2 := hM.1.2
  have n3 := hG.1
  refine sd_aload_n C dX5_reached_0 0 rfl rfl ?_
  refine sd_iload_n C dX5_reached_1 1 rfl rfl ?_
  refine sd_pVz C (c_X5_isFunnel l D ad ca T σ x1 (by omega)) mv_X5_isFunnel wm_X5_137 (by decide) rfl rfl (by decide) rfl rfl (Nat.le_of_ble_eq_true rfl) dX5_reached_2 (fun r2 h2 => ?_)
  try dsimp only at h2
  refine sd_if_ne C 12 dX5_reached_5 (by decide) (fun c5 => ?_) (fun c5 => ?_)
  · refine sd_iload_n C dX5_reached_12 2 rfl rfl ?_
    refine sd_i2l C dX5_reached_13 (fun g13 eg13 => ?_)
    refine sd_lconst C dX5_reached_14 (z := 0) (by decide) (fun k14 ek14 => ?_)
    refine sd_ldc2 C dX5_reached_15 wk_X5_125 (n := 4) (by decide) (fun k15 ek15 => ?_)
    refine sd_pSz C (c_X5_in l D ad ca T σ g13 k14 k15) mv_X5_in wm_X5_61 (by decide) rfl rfl (Nat.le_of_ble_eq_true rfl) dX5_reached_18 (fun r18 h18 => ?_)
    try dsimp only at h18
    refine sd_if_ne C 28 dX5_reached_21 (by decide) (fun c21 => ?_) (fun c21 => ?_)
    · refine sd_iconst C dX5_reached_28 (by decide) (fun k28 ek28 => ?_)
      refine sd_istore_n (lv' := [(3, .int k28), (0, .ref (ad 76)), (1, .int x1), (2, .int x2)]) C dX5_reached_29 rfl (by decide) rfl ?_
      refine sd_iconst C dX5_reached_30 (by decide) (fun k30 ek30 => ?_)
      refine sd_istore (lv' := [(4, .int k30), (3, .int k28), (0, .ref (ad 76)), (1, .int x1), (2, .int x2)]) C dX5_reached_31 (by decide) rfl ?_
      have key33 : ∀ (fu33 : Nat) (y3 : Int32) (y4 : Int32) (p : Nat) (τ : sd_Mem), (y4.toInt = (p : Int)) → (p ≤ 24) → (y3.toInt = sp_sum (fRg β x1.toInt.toNat x2.toInt) p) → (sd_MR τ β) → (sd_lo σ τ) → (24 - p < fu33) → sd_Wd X 5 D ad ca τ [(4, .int y4), (3, .int y3), (0, .ref (ad 76)), (1, .int x1), (2, .int x2)] 33 [] := by
        intro fu33
        induction fu33 with
        | zero => intro y3 y4 p τ h4 hp h3 hMt hlt hm33; exact absurd hm33 (Nat.not_lt_zero _)
        | succ fu33 ih33 =>
          intro y3 y4 p τ h4 hp h3 hMt hlt hm33
          have hr := sp_sum_rng (f := (fRg β x1.toInt.toNat x2.toInt)) (m := 1) (fun q => fRg_rng β x1.toInt.toNat x2.toInt q) p
          refine sd_iload C dX5_reached_33 0 rfl ?_
          refine sd_bipush C dX5_reached_35 (by decide) (fun k35 ek35 => ?_)
          refine sd_icmp_ge C 86 dX5_reached_37 (by decide) (fun c37 => ?_) (fun c37 => ?_)
          · refine sd_iload_n C dX5_reached_86 1 rfl rfl ?_
            exact hret _ _ _ _ dX5_reached_87 (⟨by
                have ep : p = 24 := by omega
                rw [ep] at h3
                unfold an_reached
                rw [if_neg (by omega), if_neg (by omega)]
                exact h3, hMt, hlt⟩)
          · have j1 := hMt.2.2.1 p (by omega)
            refine sd_aload_n C dX5_reached_40 2 rfl rfl ?_
            refine sd_get C (by decide) rfl rfl 5 (by decide) rfl wf_X5_23 dX5_reached_41 ?_
            refine sd_iload C dX5_reached_44 0 rfl ?_
            refine sd_iald C (by decide) rfl (p) ⟨by omega, by omega⟩ dX5_reached_46 ?_
            refine sd_if_ge C 80 dX5_reached_47 (by decide) (fun c47 => ?_) (fun c47 => ?_)
            · refine sd_iinc C dX5_reached_80 0 rfl (by decide) (by decide) (by omega) (fun zz => [(4, .int zz), (3, .int y3), (0, .ref (ad 76)), (1, .int x1), (2, .int x2)]) (fun _ => rfl) (fun u80 eu80 => ?_)
              refine sd_goto C 33 dX5_reached_83 (by decide) ?_
              exact ih33 y3 u80 (p + 1) τ (by omega) (by omega) (by first | (rw [sp_sum_s (fRg_j hG (by omega) (by omega))]; omega) | (rw [sp_sum_s (fRg_t (by omega) (by omega))]; omega) | (rw [sp_sum_s (fRg_f (by omega))]; omega)) hMt hlt (by omega)
            · refine sd_aload_n C dX5_reached_50 2 rfl rfl ?_
              refine sd_iload C dX5_reached_51 0 rfl ?_
              refine sd_callVv C (c_X5_gather l D ad ca T τ β hMt hG p (by omega) y4 (by omega)) mv_X5_gather wm_X5_109 (by decide) rfl rfl (by decide) rfl rfl (Nat.le_of_ble_eq_true rfl) dX5_reached_53 (fun s53 h53 => ?_)
              try dsimp only at h53
              obtain ⟨hA, hfr⟩ := h53
              have hMg := sd_MR_fr (sd_ga_keep hfr) hMt
              have hlo := hlt.tr (sd_ga_lo hfr)
              obtain ⟨A1, A2, A3, A4, A5⟩ := id hA
              have hW := hA.mw hMg hG
              refine sd_iload_n C dX5_reached_56 1 rfl rfl ?_
              refine sd_aload_n C dX5_reached_57 2 rfl rfl ?_
              refine sd_get C (by decide) rfl rfl 15 (by decide) rfl wf_X5_86 dX5_reached_58 ?_
              refine sd_if_le C 77 dX5_reached_61 (by decide) (fun c61 => ?_) (fun c61 => ?_)
              · refine sd_iconst C dX5_reached_77 (by decide) (fun k77 ek77 => ?_)
                refine sd_iadd C dX5_reached_78 (by omega) (fun z78 ez78 => ?_)
                refine sd_istore_n (lv' := [(3, .int z78), (4, .int y4), (0, .ref (ad 76)), (1, .int x1), (2, .int x2)]) C dX5_reached_79 rfl (by decide) rfl ?_
                refine sd_iinc C dX5_reached_80 1 rfl (by decide) (by decide) (by omega) (fun zz => [(4, .int zz), (3, .int z78), (0, .ref (ad 76)), (1, .int x1), (2, .int x2)]) (fun _ => rfl) (fun u80 eu80 => ?_)
                refine sd_goto C 33 dX5_reached_83 (by decide) ?_
                exact ih33 z78 u80 (p + 1) s53 (by omega) (by omega) (by first | (rw [sp_sum_s (fRg_j hG (by omega) (by omega))]; omega) | (rw [sp_sum_s (fRg_t (by omega) (by omega))]; omega) | (rw [sp_sum_s (fRg_f (by omega))]; omega)) hMg hlo (by omega)
              · refine sd_aload_n C dX5_reached_64 2 rfl rfl ?_
                refine sd_iload_n C dX5_reached_65 3 rfl rfl ?_
                refine sd_callVi C (c_X5_reachOf l D ad ca T s53 β (sp_row β p) hW x1.toInt.toNat (by omega) x1 (by omega)) mv_X5_reachOf wm_X5_160 (by decide) rfl rfl (by decide) rfl rfl (Nat.le_of_ble_eq_true rfl) dX5_reached_66 (fun r66 s66 h66 => ?_)
                try dsimp only at h66
                obtain ⟨g1, g3⟩ := h66
                have hMw := sd_MR_fr g3.fs.keep hMg
                have hlw := hlo.tr g3.fs.lo
                refine sd_iload_n C dX5_reached_69 4 rfl rfl ?_
                refine sd_icmp_lt C 77 dX5_reached_70 (by decide) (fun c70 => ?_) (fun c70 => ?_)
                · refine sd_iconst C dX5_reached_77 (by decide) (fun k77 ek77 => ?_)
                  refine sd_iadd C dX5_reached_78 (by omega) (fun z78 ez78 => ?_)
                  refine sd_istore_n (lv' := [(3, .int z78), (4, .int y4), (0, .ref (ad 76)), (1, .int x1), (2, .int x2)]) C dX5_reached_79 rfl (by decide) rfl ?_
                  refine sd_iinc C dX5_reached_80 1 rfl (by decide) (by decide) (by omega) (fun zz => [(4, .int zz), (3, .int z78), (0, .ref (ad 76)), (1, .int x1), (2, .int x2)]) (fun _ => rfl) (fun u80 eu80 => ?_)
                  refine sd_goto C 33 dX5_reached_83 (by decide) ?_
                  exact ih33 z78 u80 (p + 1) s66 (by omega) (by omega) (by first | (rw [sp_sum_s (fRg_j hG (by omega) (by omega))]; omega) | (rw [sp_sum_s (fRg_t (by omega) (by omega))]; omega) | (rw [sp_sum_s (fRg_f (by omega))]; omega)) hMw hlw (by omega)
                · refine sd_iconst C dX5_reached_73 (by decide) (fun k73 ek73 => ?_)
                  refine sd_goto C 78 dX5_reached_74 (by decide) ?_
                  refine sd_iadd C dX5_reached_78 (by omega) (fun z78 ez78 => ?_)
                  refine sd_istore_n (lv' := [(3, .int z78), (4, .int y4), (0, .ref (ad 76)), (1, .int x1), (2, .int x2)]) C dX5_reached_79 rfl (by decide) rfl ?_
                  refine sd_iinc C dX5_reached_80 1 rfl (by decide) (by decide) (by omega) (fun zz => [(4, .int zz), (3, .int z78), (0, .ref (ad 76)), (1, .int x1), (2, .int x2)]) (fun _ => rfl) (fun u80 eu80 => ?_)
                  refine sd_goto C 33 dX5_reached_83 (by decide) ?_
                  exact ih33 z78 u80 (p + 1) s66 (by omega) (by omega) (by first | (rw [sp_sum_s (fRg_j hG (by omega) (by omega))]; omega) | (rw [sp_sum_s (fRg_t (by omega) (by omega))]; omega) | (rw [sp_sum_s (fRg_f (by omega))]; omega)) hMw hlw (by omega)
      exact key33 _ k28 k30 0 σ (by omega) (by omega) (by rw [sp_sum]; omega) hM (fun _ _ _ => rfl) (Nat.lt_succ_self _)
    · refine sd_sipush C dX5_reached_24 (by decide) (fun k24 ek24 => ?_)
      exact hret _ _ _ _ dX5_reached_27 (⟨by
          unfold an_reached
          repeat' split
          all_goals omega, hM, fun _ _ _ => rfl⟩)
  · refine sd_sipush C dX5_reached_8 (by decide) (fun k8 ek8 => ?_)
    exact hret _ _ _ _ dX5_reached_11 (⟨by
        unfold an_reached
        repeat' split
        all_goals omega, hM, fun _ _ _ => rfl⟩)

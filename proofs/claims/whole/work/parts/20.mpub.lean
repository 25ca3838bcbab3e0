theorem sd_ga_keep {σ σ' : sd_Mem} (h : ∀ a k, a ≠ 88 → a ≠ 89 → ¬ (a = 76 ∧ (k = 15 ∨ k = 16 ∨ k = 17)) → σ' a k = σ a k) : sd_keep σ σ' := fun i k h1 h2 => h i k (by omega) (by omega) (by omega)
theorem sd_ga_lo {σ σ' : sd_Mem} (h : ∀ a k, a ≠ 88 → a ≠ 89 → ¬ (a = 76 ∧ (k = 15 ∨ k = 16 ∨ k = 17)) → σ' a k = σ a k) : sd_lo σ σ' := fun i k h1 => h i k (by omega) (by omega) (by omega)
theorem sd_lo.tr {σ τ υ : sd_Mem} (h1 : sd_lo σ τ) (h2 : sd_lo τ υ) : sd_lo σ υ := fun i k h => by rw [h2 i k h, h1 i k h]

set_option maxRecDepth 20000 in
set_option maxHeartbeats 4000000 in
theorem c_X5_placeIn (l : Launch) (D : va_G) (ad : Nat → Nat) (ca : Nat → ClassId) (T : Nat → Nat) (σ : sd_Mem) (β : sp_B) (l9 : List Nat) (hW : sd_MW σ β l9) (hN : l9.Nodup) (c : Nat) (x : Int32) (hx : x.toInt = (c : Int)) : sd_Ci l yX5_placeIn cX5_placeIn 4 0 D ad ca T σ [.ref (ad 76), .int x] (fun r σ' => σ' = σ ∧ (r.toInt = sp_pl l9 c)) := by
  refine sd_ent_i (own := RX5) (by decide) rfl (Nat.le_of_ble_eq_true rfl) (fun X C hret => ?_)
  show sd_Wd X 4 D ad ca σ [(0, .ref (ad 76)), (1, .int x)] 0 []
  have hz := hW.2.2.1
  have hl9 := hW.2.2.2.2.1
  refine sd_iconst C dX5_placeIn_0 (by decide) (fun k0 ek0 => ?_)
  refine sd_istore_n (lv' := [(2, .int k0), (0, .ref (ad 76)), (1, .int x)]) C dX5_placeIn_1 rfl (by decide) rfl ?_
  refine sd_iconst C dX5_placeIn_2 (by decide) (fun k2 ek2 => ?_)
  refine sd_istore_n (lv' := [(3, .int k2), (2, .int k0), (0, .ref (ad 76)), (1, .int x)]) C dX5_placeIn_3 rfl (by decide) rfl ?_
  have key4 : ∀ (fu4 : Nat) (y2 : Int32) (y3 : Int32) (j : Nat), (y3.toInt = (j : Int)) → (j ≤ l9.length) → ((y2.toInt = -1 ∧ ∀ i, i < j → l9.getD i 0 ≠ c) ∨ (∃ i, i < j ∧ l9.getD i 0 = c ∧ y2.toInt = (i : Int))) → (l9.length - j < fu4) → sd_Wd X 4 D ad ca σ [(3, .int y3), (2, .int y2), (0, .ref (ad 76)), (1, .int x)] 4 [] := by
    intro fu4
    induction fu4 with
    | zero => intro y2 y3 j h3 hj h2 hm4; exact absurd hm4 (Nat.not_lt_zero _)
    | succ fu4 ih4 =>
      intro y2 y3 j h3 hj h2 hm4
      refine sd_iload_n C dX5_placeIn_4 0 rfl rfl ?_
      refine sd_aload_n C dX5_placeIn_5 2 rfl rfl ?_
      refine sd_get C (by decide) rfl rfl 15 (by decide) rfl wf_X5_86 dX5_placeIn_6 ?_
      refine sd_icmp_ge C 34 dX5_placeIn_9 (by decide) (fun c9 => ?_) (fun c9 => ?_)
      · refine sd_iload_n C dX5_placeIn_34 1 rfl rfl ?_
        exact hret _ _ _ _ dX5_placeIn_35 (⟨rfl, sp_pl_cases hN (by
            rw [show l9.length = j by omega]; exact h2)⟩)
      · have t1 := hW.2.2.2.1 j (by omega)
        refine sd_aload_n C dX5_placeIn_12 2 rfl rfl ?_
        refine sd_get C (by decide) rfl rfl 13 (by decide) rfl wf_X5_44 dX5_placeIn_13 ?_
        refine sd_iload_n C dX5_placeIn_16 0 rfl rfl ?_
        refine sd_iald C (by decide) rfl (j) ⟨by omega, by omega⟩ dX5_placeIn_17 ?_
        refine sd_iload_n C dX5_placeIn_18 3 rfl rfl ?_
        refine sd_icmp_ne C 26 dX5_placeIn_19 (by decide) (fun c19 => ?_) (fun c19 => ?_)
        · refine sd_iload_n C dX5_placeIn_26 1 rfl rfl ?_
          refine sd_istore_n (lv' := [(2, .int y2), (3, .int y3), (0, .ref (ad 76)), (1, .int x)]) C dX5_placeIn_27 rfl (by decide) rfl ?_
          refine sd_iinc C dX5_placeIn_28 1 rfl (by decide) (by decide) (by omega) (fun zz => [(3, .int zz), (2, .int y2), (0, .ref (ad 76)), (1, .int x)]) (fun _ => rfl) (fun u28 eu28 => ?_)
          refine sd_goto C 4 dX5_placeIn_31 (by decide) ?_
          exact ih4 y2 u28 (j + 1) (by omega) (by omega) (by
                rcases h2 with ⟨w1, w2⟩ | ⟨i, w1, w2, w3⟩
                · refine Or.inl ⟨w1, fun i hi => ?_⟩
                  by_cases e : i = j
                  · subst e; omega
                  · exact w2 i (by omega)
                · exact Or.inr ⟨i, by omega, w2, w3⟩) (by omega)
        · refine sd_iload_n C dX5_placeIn_22 0 rfl rfl ?_
          refine sd_goto C 27 dX5_placeIn_23 (by decide) ?_
          refine sd_istore_n (lv' := [(2, .int y3), (3, .int y3), (0, .ref (ad 76)), (1, .int x)]) C dX5_placeIn_27 rfl (by decide) rfl ?_
          refine sd_iinc C dX5_placeIn_28 1 rfl (by decide) (by decide) (by omega) (fun zz => [(3, .int zz), (2, .int y3), (0, .ref (ad 76)), (1, .int x)]) (fun _ => rfl) (fun u28 eu28 => ?_)
          refine sd_goto C 4 dX5_placeIn_31 (by decide) ?_
          exact ih4 y3 u28 (j + 1) (by omega) (by omega) (Or.inr ⟨j, by omega, by omega, h3⟩) (by omega)
  exact key4 _ k0 k2 0 (by omega) (by omega) (Or.inl ⟨ek0, fun i hi => by omega⟩) (Nat.lt_succ_self _)

set_option maxRecDepth 20000 in
set_option maxHeartbeats 4000000 in
theorem c_X5_clicksOf (l : Launch) (D : va_G) (ad : Nat → Nat) (ca : Nat → ClassId) (T : Nat → Nat) (σ : sd_Mem) (β : sp_B) (hM : sd_MR σ β) (hG : sd_RG β) (p : Nat) (hp : p < 24) (x : Int32) (hx : x.toInt = (p : Int)) : sd_Ci l yX5_clicksOf cX5_clicksOf 4 1 D ad ca T σ [.ref (ad 76), .int x] (fun r σ' => σ' = σ ∧ (r.toInt = (sp_owned β p : Int))) := by
  refine sd_ent_i (own := RX5) (by decide) rfl (Nat.le_of_ble_eq_true rfl) (fun X C hret => ?_)
  show sd_Wd X 4 D ad ca σ [(0, .ref (ad 76)), (1, .int x)] 0 []
  have hN := sp_n_le hG
  have hn1 := hM.1.1
  refine sd_iconst C dX5_clicksOf_0 (by decide) (fun k0 ek0 => ?_)
  refine sd_istore_n (lv' := [(2, .int k0), (0, .ref (ad 76)), (1, .int x)]) C dX5_clicksOf_1 rfl (by decide) rfl ?_
  refine sd_iconst C dX5_clicksOf_2 (by decide) (fun k2 ek2 => ?_)
  refine sd_istore_n (lv' := [(3, .int k2), (2, .int k0), (0, .ref (ad 76)), (1, .int x)]) C dX5_clicksOf_3 rfl (by decide) rfl ?_
  have key4 : ∀ (fu4 : Nat) (y2 : Int32) (y3 : Int32) (c : Nat), (y3.toInt = (c : Int)) → (c ≤ sp_n β) → (y2.toInt = (sp_ct (sp_mine β p) c : Int)) → (sp_n β - c < fu4) → sd_Wd X 4 D ad ca σ [(3, .int y3), (2, .int y2), (0, .ref (ad 76)), (1, .int x)] 4 [] := by
    intro fu4
    induction fu4 with
    | zero => intro y2 y3 c h3 hc h2 hm4; exact absurd hm4 (Nat.not_lt_zero _)
    | succ fu4 ih4 =>
      intro y2 y3 c h3 hc h2 hm4
      refine sd_iload_n C dX5_clicksOf_4 0 rfl rfl ?_
      refine sd_aload_n C dX5_clicksOf_5 2 rfl rfl ?_
      refine sd_get C (by decide) rfl rfl 0 (by decide) rfl wf_X5_65 dX5_clicksOf_6 ?_
      refine sd_icmp_ge C 40 dX5_clicksOf_9 (by decide) (fun c9 => ?_) (fun c9 => ?_)
      · refine sd_iload_n C dX5_clicksOf_40 1 rfl rfl ?_
        exact hret _ _ _ _ dX5_clicksOf_41 (⟨rfl, by unfold sp_owned; rw [show sp_n β = c by omega]; exact h2⟩)
      · have hwc := hM.2.1 c (by omega)
        have hgc := hG.2.1 c (by omega)
        have hle := sp_ct_le (p := sp_mine β p) c
        refine sd_iload_n C dX5_clicksOf_12 1 rfl rfl ?_
        refine sd_aload_n C dX5_clicksOf_13 2 rfl rfl ?_
        refine sd_aload_n C dX5_clicksOf_14 2 rfl rfl ?_
        refine sd_get C (by decide) rfl rfl 2 (by decide) rfl wf_X5_13 dX5_clicksOf_15 ?_
        refine sd_iload_n C dX5_clicksOf_18 0 rfl rfl ?_
        refine sd_iald C (by decide) rfl (c) ⟨by omega, by omega⟩ dX5_clicksOf_19 ?_
        refine sd_pVi C (c_X5_personOf l D ad ca T σ β hM hG (β 2 c).toNat (by omega) (σ 78 c) (by omega)) mv_X5_personOf wm_X5_89 (by decide) rfl rfl (by decide) rfl rfl (Nat.le_of_ble_eq_true rfl) dX5_clicksOf_20 (fun r20 h20 => ?_)
        try dsimp only at h20
        refine sd_iload_n C dX5_clicksOf_23 3 rfl rfl ?_
        refine sd_icmp_ne C 31 dX5_clicksOf_24 (by decide) (fun c24 => ?_) (fun c24 => ?_)
        · refine sd_iconst C dX5_clicksOf_31 (by decide) (fun k31 ek31 => ?_)
          refine sd_iadd C dX5_clicksOf_32 (by omega) (fun z32 ez32 => ?_)
          refine sd_istore_n (lv' := [(2, .int z32), (3, .int y3), (0, .ref (ad 76)), (1, .int x)]) C dX5_clicksOf_33 rfl (by decide) rfl ?_
          refine sd_iinc C dX5_clicksOf_34 1 rfl (by decide) (by decide) (by omega) (fun zz => [(3, .int zz), (2, .int z32), (0, .ref (ad 76)), (1, .int x)]) (fun _ => rfl) (fun u34 eu34 => ?_)
          refine sd_goto C 4 dX5_clicksOf_37 (by decide) ?_
          exact ih4 z32 u34 (c + 1) (by omega) (by omega) (by first | (rw [sp_ct_s (by unfold sp_mine; exact decide_eq_true (by omega))]; omega) | (rw [sp_ct_k (by unfold sp_mine; exact decide_eq_false (by omega))]; omega)) (by omega)
        · refine sd_iconst C dX5_clicksOf_27 (by decide) (fun k27 ek27 => ?_)
          refine sd_goto C 32 dX5_clicksOf_28 (by decide) ?_
          refine sd_iadd C dX5_clicksOf_32 (by omega) (fun z32 ez32 => ?_)
          refine sd_istore_n (lv' := [(2, .int z32), (3, .int y3), (0, .ref (ad 76)), (1, .int x)]) C dX5_clicksOf_33 rfl (by decide) rfl ?_
          refine sd_iinc C dX5_clicksOf_34 1 rfl (by decide) (by decide) (by omega) (fun zz => [(3, .int zz), (2, .int z32), (0, .ref (ad 76)), (1, .int x)]) (fun _ => rfl) (fun u34 eu34 => ?_)
          refine sd_goto C 4 dX5_clicksOf_37 (by decide) ?_
          exact ih4 z32 u34 (c + 1) (by omega) (by omega) (by first | (rw [sp_ct_s (by unfold sp_mine; exact decide_eq_true (by omega))]; omega) | (rw [sp_ct_k (by unfold sp_mine; exact decide_eq_false (by omega))]; omega)) (by omega)
  exact key4 _ k0 k2 0 (by omega) (by omega) (by rw [sp_ct]; exact ek0) (Nat.lt_succ_self _)

set_option maxRecDepth 20000 in
set_option maxHeartbeats 4000000 in
theorem c_X5_birth (l : Launch) (D : va_G) (ad : Nat → Nat) (ca : Nat → ClassId) (T : Nat → Nat) (σ : sd_Mem) (β : sp_B) (l9 : List Nat) (hW : sd_MW σ β l9) : sd_Ci l yX5_birth cX5_birth 2 0 D ad ca T σ [.ref (ad 76)] (fun r σ' => σ' = σ ∧ (r.toInt = sp_birth β l9)) := by
  refine sd_ent_i (own := RX5) (by decide) rfl (Nat.le_of_ble_eq_true rfl) (fun X C hret => ?_)
  show sd_Wd X 2 D ad ca σ [(0, .ref (ad 76))] 0 []
  have hz := hW.2.2.1
  have hl9 := hW.2.2.2.2.1
  have u5 := hW.1.2.2.2.1 5 (by decide)
  refine sd_iconst C dX5_birth_0 (by decide) (fun k0 ek0 => ?_)
  refine sd_istore_n (lv' := [(1, .int k0), (0, .ref (ad 76))]) C dX5_birth_1 rfl (by decide) rfl ?_
  have key2 : ∀ (fu2 : Nat) (y1 : Int32) (j : Nat), (y1.toInt = (j : Int)) → (j ≤ l9.length) → (∀ i, i < j → β 3 (l9.getD i 0) ≠ β 6 5) → (l9.length - j < fu2) → sd_Wd X 2 D ad ca σ [(1, .int y1), (0, .ref (ad 76))] 2 [] := by
    intro fu2
    induction fu2 with
    | zero => intro y1 j h1 hj hno hm2; exact absurd hm2 (Nat.not_lt_zero _)
    | succ fu2 ih2 =>
      intro y1 j h1 hj hno hm2
      refine sd_iload_n C dX5_birth_2 0 rfl rfl ?_
      refine sd_aload_n C dX5_birth_3 1 rfl rfl ?_
      refine sd_get C (by decide) rfl rfl 15 (by decide) rfl wf_X5_86 dX5_birth_4 ?_
      refine sd_icmp_ge C 52 dX5_birth_7 (by decide) (fun c7 => ?_) (fun c7 => ?_)
      · refine sd_iconst C dX5_birth_52 (by decide) (fun k52 ek52 => ?_)
        exact hret _ _ _ _ dX5_birth_53 (⟨rfl, by rw [sp_birth_none (fun i h => hno i (by omega))]; omega⟩)
      · have t1 := hW.at (j := j) (by omega)
        refine sd_aload_n C dX5_birth_10 1 rfl rfl ?_
        refine sd_get C (by decide) rfl rfl 3 (by decide) rfl wf_X5_16 dX5_birth_11 ?_
        refine sd_aload_n C dX5_birth_14 1 rfl rfl ?_
        refine sd_get C (by decide) rfl rfl 13 (by decide) rfl wf_X5_44 dX5_birth_15 ?_
        refine sd_iload_n C dX5_birth_18 0 rfl rfl ?_
        refine sd_iald C (by decide) rfl (j) ⟨by omega, by omega⟩ dX5_birth_19 ?_
        refine sd_iald C (by decide) rfl (l9.getD j 0) ⟨by omega, by omega⟩ dX5_birth_20 ?_
        refine sd_aload_n C dX5_birth_21 1 rfl rfl ?_
        refine sd_get C (by decide) rfl rfl 6 (by decide) rfl wf_X5_26 dX5_birth_22 ?_
        refine sd_iconst C dX5_birth_25 (by decide) (fun k25 ek25 => ?_)
        refine sd_iald C (by decide) rfl (5) ⟨by omega, by omega⟩ dX5_birth_26 ?_
        refine sd_icmp_ne C 46 dX5_birth_27 (by decide) (fun c27 => ?_) (fun c27 => ?_)
        · refine sd_iinc C dX5_birth_46 0 rfl (by decide) (by decide) (by omega) (fun zz => [(1, .int zz), (0, .ref (ad 76))]) (fun _ => rfl) (fun u46 eu46 => ?_)
          refine sd_goto C 2 dX5_birth_49 (by decide) ?_
          exact ih2 u46 (j + 1) (by omega) (by omega) (fun i h => by
                by_cases e : i = j
                · subst e; omega
                · exact hno i (by omega)) (by omega)
        · refine sd_aload_n C dX5_birth_30 1 rfl rfl ?_
          refine sd_get C (by decide) rfl rfl 1 (by decide) rfl wf_X5_7 dX5_birth_31 ?_
          refine sd_aload_n C dX5_birth_34 1 rfl rfl ?_
          refine sd_get C (by decide) rfl rfl 13 (by decide) rfl wf_X5_44 dX5_birth_35 ?_
          refine sd_iload_n C dX5_birth_38 0 rfl rfl ?_
          refine sd_iald C (by decide) rfl (j) ⟨by omega, by omega⟩ dX5_birth_39 ?_
          refine sd_iald C (by decide) rfl (l9.getD j 0) ⟨by omega, by omega⟩ dX5_birth_40 ?_
          refine sd_sipush C dX5_birth_41 (by decide) (fun k41 ek41 => ?_)
          refine sd_idiv C 10080 (by decide) dX5_birth_44 ek41 (by omega) (fun z44 ez44 => ?_)
          exact hret _ _ _ _ dX5_birth_45 (⟨rfl, by rw [sp_birth_some (i := j) (by omega) (by omega) hno]; omega⟩)
  exact key2 _ k0 0 (by omega) (by omega) (fun i h => by omega) (Nat.lt_succ_self _)

set_option maxRecDepth 20000 in
set_option maxHeartbeats 4000000 in
theorem c_X5_cameIn (l : Launch) (D : va_G) (ad : Nat → Nat) (ca : Nat → ClassId) (T : Nat → Nat) (σ : sd_Mem) (β : sp_B) (l9 : List Nat) (hW : sd_MW σ β l9) (x : Int32) : sd_Cz l yX5_cameIn cX5_cameIn 4 0 D ad ca T σ [.ref (ad 76), .int x] (fun r σ' => σ' = σ ∧ ((r.toInt = 1 ∧ sp_came β l9 x.toInt = true) ∨ (r.toInt = 0 ∧ sp_came β l9 x.toInt = false))) := by
  refine sd_ent_z (own := RX5) (by decide) rfl (Nat.le_of_ble_eq_true rfl) (fun X C hret => ?_)
  show sd_Wd X 4 D ad ca σ [(0, .ref (ad 76)), (1, .int x)] 0 []
  have hz := hW.2.2.1
  have hl9 := hW.2.2.2.2.1
  refine sd_iconst C dX5_cameIn_0 (by decide) (fun k0 ek0 => ?_)
  refine sd_istore_n (lv' := [(2, .int k0), (0, .ref (ad 76)), (1, .int x)]) C dX5_cameIn_1 rfl (by decide) rfl ?_
  refine sd_iconst C dX5_cameIn_2 (by decide) (fun k2 ek2 => ?_)
  refine sd_istore_n (lv' := [(3, .int k2), (2, .int k0), (0, .ref (ad 76)), (1, .int x)]) C dX5_cameIn_3 rfl (by decide) rfl ?_
  have key4 : ∀ (fu4 : Nat) (y2 : Int32) (y3 : Int32) (j : Nat), (y3.toInt = (j : Int)) → (j ≤ l9.length) → ((y2.toInt = 1 ∧ sp_came β l9 x.toInt = true) ∨ (y2.toInt = 0 ∧ ∀ i, i < j → β 1 (l9.getD i 0) / 10080 ≠ x.toInt)) → (l9.length - j < fu4) → sd_Wd X 4 D ad ca σ [(3, .int y3), (2, .int y2), (0, .ref (ad 76)), (1, .int x)] 4 [] := by
    intro fu4
    induction fu4 with
    | zero => intro y2 y3 j h3 hj h2 hm4; exact absurd hm4 (Nat.not_lt_zero _)
    | succ fu4 ih4 =>
      intro y2 y3 j h3 hj h2 hm4
      refine sd_iload_n C dX5_cameIn_4 0 rfl rfl ?_
      refine sd_aload_n C dX5_cameIn_5 2 rfl rfl ?_
      refine sd_get C (by decide) rfl rfl 15 (by decide) rfl wf_X5_86 dX5_cameIn_6 ?_
      refine sd_icmp_ge C 47 dX5_cameIn_9 (by decide) (fun c9 => ?_) (fun c9 => ?_)
      · refine sd_iload_n C dX5_cameIn_47 1 rfl rfl ?_
        exact hret _ _ _ _ dX5_cameIn_48 (by omega) (⟨rfl, by
            rcases h2 with w | w
            · exact Or.inl w
            · exact Or.inr ⟨w.1, sp_came_false (fun i h => w.2 i (by omega))⟩⟩)
      · refine sd_iload_n C dX5_cameIn_12 1 rfl rfl ?_
        refine sd_if_ne C 35 dX5_cameIn_13 (by decide) (fun c13 => ?_) (fun c13 => ?_)
        · refine sd_iconst C dX5_cameIn_35 (by decide) (fun k35 ek35 => ?_)
          refine sd_goto C 40 dX5_cameIn_36 (by decide) ?_
          refine sd_istore_n (lv' := [(2, .int k35), (3, .int y3), (0, .ref (ad 76)), (1, .int x)]) C dX5_cameIn_40 rfl (by decide) rfl ?_
          refine sd_iinc C dX5_cameIn_41 1 rfl (by decide) (by decide) (by omega) (fun zz => [(3, .int zz), (2, .int k35), (0, .ref (ad 76)), (1, .int x)]) (fun _ => rfl) (fun u41 eu41 => ?_)
          refine sd_goto C 4 dX5_cameIn_44 (by decide) ?_
          exact ih4 k35 u41 (j + 1) (by omega) (by omega) (by
                first
                  | exact Or.inl ⟨by omega, sp_came_true (i := j) (by omega) (by omega)⟩
                  | (rcases h2 with w | w
                     · exact Or.inl ⟨by omega, w.2⟩
                     · exact absurd w.1 (by omega))) (by omega)
        · have t1 := hW.at (j := j) (by omega)
          refine sd_aload_n C dX5_cameIn_16 2 rfl rfl ?_
          refine sd_get C (by decide) rfl rfl 1 (by decide) rfl wf_X5_7 dX5_cameIn_17 ?_
          refine sd_aload_n C dX5_cameIn_20 2 rfl rfl ?_
          refine sd_get C (by decide) rfl rfl 13 (by decide) rfl wf_X5_44 dX5_cameIn_21 ?_
          refine sd_iload_n C dX5_cameIn_24 0 rfl rfl ?_
          refine sd_iald C (by decide) rfl (j) ⟨by omega, by omega⟩ dX5_cameIn_25 ?_
          refine sd_iald C (by decide) rfl (l9.getD j 0) ⟨by omega, by omega⟩ dX5_cameIn_26 ?_
          refine sd_sipush C dX5_cameIn_27 (by decide) (fun k27 ek27 => ?_)
          refine sd_idiv C 10080 (by decide) dX5_cameIn_30 ek27 (by omega) (fun z30 ez30 => ?_)
          refine sd_iload_n C dX5_cameIn_31 3 rfl rfl ?_
          refine sd_icmp_ne C 39 dX5_cameIn_32 (by decide) (fun c32 => ?_) (fun c32 => ?_)
          · refine sd_iconst C dX5_cameIn_39 (by decide) (fun k39 ek39 => ?_)
            refine sd_istore_n (lv' := [(2, .int k39), (3, .int y3), (0, .ref (ad 76)), (1, .int x)]) C dX5_cameIn_40 rfl (by decide) rfl ?_
            refine sd_iinc C dX5_cameIn_41 1 rfl (by decide) (by decide) (by omega) (fun zz => [(3, .int zz), (2, .int k39), (0, .ref (ad 76)), (1, .int x)]) (fun _ => rfl) (fun u41 eu41 => ?_)
            refine sd_goto C 4 dX5_cameIn_44 (by decide) ?_
            exact ih4 k39 u41 (j + 1) (by omega) (by omega) (by
                  rcases h2 with w | w
                  · exact absurd w.1 (by omega)
                  · refine Or.inr ⟨by omega, fun i h => ?_⟩
                    by_cases e : i = j
                    · subst e; omega
                    · exact w.2 i (by omega)) (by omega)
          · refine sd_iconst C dX5_cameIn_35 (by decide) (fun k35 ek35 => ?_)
            refine sd_goto C 40 dX5_cameIn_36 (by decide) ?_
            refine sd_istore_n (lv' := [(2, .int k35), (3, .int y3), (0, .ref (ad 76)), (1, .int x)]) C dX5_cameIn_40 rfl (by decide) rfl ?_
            refine sd_iinc C dX5_cameIn_41 1 rfl (by decide) (by decide) (by omega) (fun zz => [(3, .int zz), (2, .int k35), (0, .ref (ad 76)), (1, .int x)]) (fun _ => rfl) (fun u41 eu41 => ?_)
            refine sd_goto C 4 dX5_cameIn_44 (by decide) ?_
            exact ih4 k35 u41 (j + 1) (by omega) (by omega) (by
                  first
                    | exact Or.inl ⟨by omega, sp_came_true (i := j) (by omega) (by omega)⟩
                    | (rcases h2 with w | w
                       · exact Or.inl ⟨by omega, w.2⟩
                       · exact absurd w.1 (by omega))) (by omega)
  exact key4 _ k0 k2 0 (by omega) (by omega) (Or.inr ⟨ek0, fun i h => by omega⟩) (Nat.lt_succ_self _)

set_option maxRecDepth 20000 in
set_option maxHeartbeats 4000000 in
theorem c_X5_counted (l : Launch) (D : va_G) (ad : Nat → Nat) (ca : Nat → ClassId) (T : Nat → Nat) (σ : sd_Mem) (β : sp_B) (hG : sd_RG β) (p : Nat) (hA : sd_GA σ β p) (x : Int32) (h1 : 1 ≤ x.toInt) (h4 : x.toInt ≤ 4) : sd_Ci l yX5_counted cX5_counted 2 0 D ad ca T σ [.ref (ad 76), .int x] (fun r σ' => σ' = σ ∧ (r.toInt = sp_cf β x.toInt p)) := by
  refine sd_ent_i (own := RX5) (by decide) rfl (Nat.le_of_ble_eq_true rfl) (fun X C hret => ?_)
  show sd_Wd X 2 D ad ca σ [(0, .ref (ad 76)), (1, .int x)] 0 []
  obtain ⟨A1, A2, A3, A4, A5⟩ := hA
  refine sd_iload_n C dX5_counted_0 1 rfl rfl ?_
  refine sd_iconst C dX5_counted_1 (by decide) (fun k1 ek1 => ?_)
  refine sd_icmp_ne C 12 dX5_counted_2 (by decide) (fun c2 => ?_) (fun c2 => ?_)
  · refine sd_iload_n C dX5_counted_12 1 rfl rfl ?_
    refine sd_iconst C dX5_counted_13 (by decide) (fun k13 ek13 => ?_)
    refine sd_icmp_ne C 24 dX5_counted_14 (by decide) (fun c14 => ?_) (fun c14 => ?_)
    · refine sd_iload_n C dX5_counted_24 1 rfl rfl ?_
      refine sd_iconst C dX5_counted_25 (by decide) (fun k25 ek25 => ?_)
      refine sd_icmp_ne C 44 dX5_counted_26 (by decide) (fun c26 => ?_) (fun c26 => ?_)
      · refine sd_aload_n C dX5_counted_44 0 rfl rfl ?_
        refine sd_get C (by decide) rfl rfl 17 (by decide) rfl wf_X5_97 dX5_counted_45 ?_
        refine sd_if_eq C 55 dX5_counted_48 (by decide) (fun c48 => ?_) (fun c48 => ?_)
        · refine sd_iconst C dX5_counted_55 (by decide) (fun k55 ek55 => ?_)
          exact hret _ _ _ _ dX5_counted_56 (⟨rfl, by
              unfold sp_cf
              repeat' split
              all_goals first
                | omega
                | (rw [sp_b1 (decide_eq_true (by omega))]; omega)
                | (rw [sp_b0 (decide_eq_false (by omega))]; omega)
                | (cases hk : sp_quick β (sp_raw β p)
                   · rw [hk] at A4; simp at A4; rw [sp_b0 rfl]; omega
                   · rw [hk] at A4; simp at A4; rw [sp_b1 rfl]; omega)⟩)
        · refine sd_iconst C dX5_counted_51 (by decide) (fun k51 ek51 => ?_)
          refine sd_goto C 56 dX5_counted_52 (by decide) ?_
          exact hret _ _ _ _ dX5_counted_56 (⟨rfl, by
              unfold sp_cf
              repeat' split
              all_goals first
                | omega
                | (rw [sp_b1 (decide_eq_true (by omega))]; omega)
                | (rw [sp_b0 (decide_eq_false (by omega))]; omega)
                | (cases hk : sp_quick β (sp_raw β p)
                   · rw [hk] at A4; simp at A4; rw [sp_b0 rfl]; omega
                   · rw [hk] at A4; simp at A4; rw [sp_b1 rfl]; omega)⟩)
      · refine sd_aload_n C dX5_counted_29 0 rfl rfl ?_
        refine sd_get C (by decide) rfl rfl 15 (by decide) rfl wf_X5_86 dX5_counted_30 ?_
        refine sd_if_le C 40 dX5_counted_33 (by decide) (fun c33 => ?_) (fun c33 => ?_)
        · refine sd_iconst C dX5_counted_40 (by decide) (fun k40 ek40 => ?_)
          refine sd_goto C 56 dX5_counted_41 (by decide) ?_
          exact hret _ _ _ _ dX5_counted_56 (⟨rfl, by
              unfold sp_cf
              repeat' split
              all_goals first
                | omega
                | (rw [sp_b1 (decide_eq_true (by omega))]; omega)
                | (rw [sp_b0 (decide_eq_false (by omega))]; omega)
                | (cases hk : sp_quick β (sp_raw β p)
                   · rw [hk] at A4; simp at A4; rw [sp_b0 rfl]; omega
                   · rw [hk] at A4; simp at A4; rw [sp_b1 rfl]; omega)⟩)
        · refine sd_iconst C dX5_counted_36 (by decide) (fun k36 ek36 => ?_)
          refine sd_goto C 56 dX5_counted_37 (by decide) ?_
          exact hret _ _ _ _ dX5_counted_56 (⟨rfl, by
              unfold sp_cf
              repeat' split
              all_goals first
                | omega
                | (rw [sp_b1 (decide_eq_true (by omega))]; omega)
                | (rw [sp_b0 (decide_eq_false (by omega))]; omega)
                | (cases hk : sp_quick β (sp_raw β p)
                   · rw [hk] at A4; simp at A4; rw [sp_b0 rfl]; omega
                   · rw [hk] at A4; simp at A4; rw [sp_b1 rfl]; omega)⟩)
    · refine sd_aload_n C dX5_counted_17 0 rfl rfl ?_
      refine sd_get C (by decide) rfl rfl 16 (by decide) rfl wf_X5_101 dX5_counted_18 ?_
      refine sd_goto C 56 dX5_counted_21 (by decide) ?_
      exact hret _ _ _ _ dX5_counted_56 (⟨rfl, by
          unfold sp_cf
          repeat' split
          all_goals first
            | omega
            | (rw [sp_b1 (decide_eq_true (by omega))]; omega)
            | (rw [sp_b0 (decide_eq_false (by omega))]; omega)
            | (cases hk : sp_quick β (sp_raw β p)
               · rw [hk] at A4; simp at A4; rw [sp_b0 rfl]; omega
               · rw [hk] at A4; simp at A4; rw [sp_b1 rfl]; omega)⟩)
  · refine sd_aload_n C dX5_counted_5 0 rfl rfl ?_
    refine sd_get C (by decide) rfl rfl 15 (by decide) rfl wf_X5_86 dX5_counted_6 ?_
    refine sd_goto C 56 dX5_counted_9 (by decide) ?_
    exact hret _ _ _ _ dX5_counted_56 (⟨rfl, by
        unfold sp_cf
        repeat' split
        all_goals first
          | omega
          | (rw [sp_b1 (decide_eq_true (by omega))]; omega)
          | (rw [sp_b0 (decide_eq_false (by omega))]; omega)
          | (cases hk : sp_quick β (sp_raw β p)
             · rw [hk] at A4; simp at A4; rw [sp_b0 rfl]; omega
             · rw [hk] at A4; simp at A4; rw [sp_b1 rfl]; omega)⟩)

set_option maxRecDepth 20000 in
set_option maxHeartbeats 4000000 in
theorem c_X5_click (l : Launch) (D : va_G) (ad : Nat → Nat) (ca : Nat → ClassId) (T : Nat → Nat) (σ : sd_Mem) (β : sp_B) (hM : sd_MR σ β) (hG : sd_RG β) (hK : sd_RK β) (x1 x2 x3 : Int32) : sd_Ci l yX5_click cX5_click 4 2 D ad ca T σ [.ref (ad 76), .int x1, .int x2, .int x3] (fun r σ' => r.toInt = an_click β x1.toInt x2.toInt x3.toInt ∧ sd_MR σ' (up_click β x1.toInt x2.toInt x3.toInt) ∧ sd_lo σ σ') := by
  refine sd_ent_i (own := RX5) (by decide) rfl (Nat.le_of_ble_eq_true rfl) (fun X C hret => ?_)
  show sd_Wd X 4 D ad ca σ [(0, .ref (ad 76)), (1, .int x1), (2, .int x2), (3, .int x3)] 0 []
  have hN := sp_n_le hG
  have hn1 := hM.1.1
  refine sd_iload_n C dX5_click_0 2 rfl rfl ?_
  refine sd_pSz C (c_X5_isWho l D ad ca T σ x2) mv_X5_isWho wm_X5_69 (by decide) rfl rfl (Nat.le_of_ble_eq_true rfl) dX5_click_1 (fun r1 h1 => ?_)
  try dsimp only at h1
  refine sd_if_ne C 11 dX5_click_4 (by decide) (fun c4 => ?_) (fun c4 => ?_)
  · refine sd_iload_n C dX5_click_11 1 rfl rfl ?_
    refine sd_i2l C dX5_click_12 (fun g12 eg12 => ?_)
    refine sd_lconst C dX5_click_13 (z := 0) (by decide) (fun k13 ek13 => ?_)
    refine sd_ldc2 C dX5_click_14 wk_X5_73 (n := 200000) (by decide) (fun k14 ek14 => ?_)
    refine sd_pSz C (c_X5_in l D ad ca T σ g12 k13 k14) mv_X5_in wm_X5_61 (by decide) rfl rfl (Nat.le_of_ble_eq_true rfl) dX5_click_17 (fun r17 h17 => ?_)
    try dsimp only at h17
    refine sd_if_eq C 35 dX5_click_20 (by decide) (fun c20 => ?_) (fun c20 => ?_)
    · refine sd_sipush C dX5_click_35 (by decide) (fun k35 ek35 => ?_)
      exact hret _ _ _ _ dX5_click_38 (⟨by
          unfold an_click
          repeat' split
          all_goals omega, by
          unfold up_click
          rw [if_pos (by omega)]; exact hM, fun _ _ _ => rfl⟩)
    · refine sd_iload_n C dX5_click_23 3 rfl rfl ?_
      refine sd_i2l C dX5_click_24 (fun g24 eg24 => ?_)
      refine sd_lconst C dX5_click_25 (z := 0) (by decide) (fun k25 ek25 => ?_)
      refine sd_ldc2 C dX5_click_26 wk_X5_75 (n := 7) (by decide) (fun k26 ek26 => ?_)
      refine sd_pSz C (c_X5_in l D ad ca T σ g24 k25 k26) mv_X5_in wm_X5_61 (by decide) rfl rfl (Nat.le_of_ble_eq_true rfl) dX5_click_29 (fun r29 h29 => ?_)
      try dsimp only at h29
      refine sd_if_ne C 39 dX5_click_32 (by decide) (fun c32 => ?_) (fun c32 => ?_)
      · refine sd_aload_n C dX5_click_39 0 rfl rfl ?_
        refine sd_get C (by decide) rfl rfl 0 (by decide) rfl wf_X5_65 dX5_click_40 ?_
        refine sd_bipush C dX5_click_43 (by decide) (fun k43 ek43 => ?_)
        refine sd_icmp_ne C 52 dX5_click_45 (by decide) (fun c45 => ?_) (fun c45 => ?_)
        · refine sd_aload_n C dX5_click_52 0 rfl rfl ?_
          refine sd_get C (by decide) rfl rfl 1 (by decide) rfl wf_X5_7 dX5_click_53 ?_
          refine sd_aload_n C dX5_click_56 0 rfl rfl ?_
          refine sd_get C (by decide) rfl rfl 0 (by decide) rfl wf_X5_65 dX5_click_57 ?_
          refine sd_iload_n C dX5_click_60 1 rfl rfl ?_
          refine sd_iast C (by decide) (fun _ => rfl) (sp_n β) ⟨by omega, by omega⟩ dX5_click_61 (fun s61 es61 => ?_)
          have f1 : s61 76 0 = σ 76 0 := by rw [es61, sd_st_ne (by decide)]
          refine sd_aload_n C dX5_click_62 0 rfl rfl ?_
          refine sd_get C (by decide) rfl rfl 2 (by decide) rfl wf_X5_13 dX5_click_63 ?_
          refine sd_aload_n C dX5_click_66 0 rfl rfl ?_
          refine sd_get C (by decide) rfl rfl 0 (by decide) rfl wf_X5_65 dX5_click_67 ?_
          refine sd_iload_n C dX5_click_70 2 rfl rfl ?_
          refine sd_iast C (by decide) (fun _ => rfl) (sp_n β) ⟨by rw [f1]; omega, by omega⟩ dX5_click_71 (fun s71 es71 => ?_)
          have f2 : s71 76 0 = σ 76 0 := by rw [es71, sd_st_ne (by decide)]; exact f1
          refine sd_aload_n C dX5_click_72 0 rfl rfl ?_
          refine sd_get C (by decide) rfl rfl 3 (by decide) rfl wf_X5_16 dX5_click_73 ?_
          refine sd_aload_n C dX5_click_76 0 rfl rfl ?_
          refine sd_get C (by decide) rfl rfl 0 (by decide) rfl wf_X5_65 dX5_click_77 ?_
          refine sd_iload_n C dX5_click_80 3 rfl rfl ?_
          refine sd_iast C (by decide) (fun _ => rfl) (sp_n β) ⟨by rw [f2]; omega, by omega⟩ dX5_click_81 (fun s81 es81 => ?_)
          have f3 : s81 76 0 = σ 76 0 := by rw [es81, sd_st_ne (by decide)]; exact f2
          refine sd_aload_n C dX5_click_82 0 rfl rfl ?_
          refine sd_get C (by decide) rfl rfl 4 (by decide) rfl wf_X5_19 dX5_click_83 ?_
          refine sd_aload_n C dX5_click_86 0 rfl rfl ?_
          refine sd_get C (by decide) rfl rfl 0 (by decide) rfl wf_X5_65 dX5_click_87 ?_
          refine sd_iconst C dX5_click_90 (by decide) (fun k90 ek90 => ?_)
          refine sd_zast C (by decide) (fun _ => rfl) (sp_n β) ⟨by rw [f3]; omega, by omega⟩ (by omega) dX5_click_91 (fun s91 es91 => ?_)
          have f4 : s91 76 0 = σ 76 0 := by rw [es91, sd_st_ne (by decide)]; exact f3
          refine sd_aload_n C dX5_click_92 0 rfl rfl ?_
          refine sd_dup C dX5_click_93 rfl ?_
          refine sd_get C (by decide) rfl rfl 0 (by decide) rfl wf_X5_65 dX5_click_94 ?_
          refine sd_iconst C dX5_click_97 (by decide) (fun k97 ek97 => ?_)
          refine sd_iadd C dX5_click_98 (by rw [f4]; omega) (fun z98 ez98 => ?_)
          refine sd_put C (ty := .int) (by decide) rfl rfl 0 (by decide) rfl (by decide +kernel) rfl rfl (Nat.le_of_ble_eq_true rfl) (fun _ => rfl) wf_X5_65 dX5_click_99 (fun s99 es99 => ?_)
          have f5 : s99 76 0 = z98 := by rw [es99, sd_st_at]
          refine sd_aload_n C dX5_click_102 0 rfl rfl ?_
          refine sd_get C (by decide) rfl rfl 0 (by decide) rfl wf_X5_65 dX5_click_103 ?_
          refine sd_iconst C dX5_click_106 (by decide) (fun k106 ek106 => ?_)
          refine sd_isub C dX5_click_107 (by rw [f5, ez98, f4]; omega) (fun z107 ez107 => ?_)
          exact hret _ _ _ _ dX5_click_108 (by
              rw [f4] at ez98
              rw [f5] at ez107
              refine ⟨by
                unfold an_click
                repeat' split
                all_goals omega, ?_, fun i k hi => ?_⟩
              · unfold up_click
                rw [if_neg (by omega)]
                exact sd_MR_click hM hG hK (by omega) es61 es71 es81 es91 es99 ek90 (by omega)
              · rw [es99, sd_st_ne (by omega), es91, sd_st_ne (by omega), es81, sd_st_ne (by omega), es71, sd_st_ne (by omega), es61, sd_st_ne (by omega)])
        · refine sd_sipush C dX5_click_48 (by decide) (fun k48 ek48 => ?_)
          exact hret _ _ _ _ dX5_click_51 (⟨by
              unfold an_click
              repeat' split
              all_goals omega, by
              unfold up_click
              rw [if_pos (by omega)]; exact hM, fun _ _ _ => rfl⟩)
      · refine sd_sipush C dX5_click_35 (by decide) (fun k35 ek35 => ?_)
        exact hret _ _ _ _ dX5_click_38 (⟨by
            unfold an_click
            repeat' split
            all_goals omega, by
            unfold up_click
            rw [if_pos (by omega)]; exact hM, fun _ _ _ => rfl⟩)
  · refine sd_sipush C dX5_click_7 (by decide) (fun k7 ek7 => ?_)
    exact hret _ _ _ _ dX5_click_10 (⟨by
        unfold an_click
        repeat' split
        all_goals omega, by
        unfold up_click
        rw [if_pos (by omega)]; exact hM, fun _ _ _ => rfl⟩)

set_option maxRecDepth 20000 in
set_option maxHeartbeats 4000000 in
theorem c_X5_strike (l : Launch) (D : va_G) (ad : Nat → Nat) (ca : Nat → ClassId) (T : Nat → Nat) (σ : sd_Mem) (β : sp_B) (hM : sd_MR σ β) (hG : sd_RG β) (x1 x2 : Int32) (hx2 : x2.toInt = 0 ∨ x2.toInt = 1) : sd_Ci l yX5_strike cX5_strike 4 2 D ad ca T σ [.ref (ad 76), .int x1, .int x2] (fun r σ' => r.toInt = an_strike β x1.toInt ∧ sd_MR σ' (up_strike β x1.toInt x2.toInt) ∧ sd_lo σ σ') := by
  refine sd_ent_i (own := RX5) (by decide) rfl (Nat.le_of_ble_eq_true rfl) (fun X C hret => ?_)
  show sd_Wd X 4 D ad ca σ [(0, .ref (ad 76)), (1, .int x1), (2, .int x2)] 0 []
  have hN := sp_n_le hG
  have hn1 := hM.1.1
  refine sd_aload_n C dX5_strike_0 0 rfl rfl ?_
  refine sd_iload_n C dX5_strike_1 1 rfl rfl ?_
  refine sd_pVz C (c_X5_isClick l D ad ca T σ x1 (by omega)) mv_X5_isClick wm_X5_77 (by decide) rfl rfl (by decide) rfl rfl (Nat.le_of_ble_eq_true rfl) dX5_strike_2 (fun r2 h2 => ?_)
  try dsimp only at h2
  refine sd_if_ne C 12 dX5_strike_5 (by decide) (fun c5 => ?_) (fun c5 => ?_)
  · have t1 := hM.2.1 x1.toInt.toNat (by omega)
    have t2 := hG.2.1 x1.toInt.toNat (by omega)
    refine sd_aload_n C dX5_strike_12 0 rfl rfl ?_
    refine sd_get C (by decide) rfl rfl 4 (by decide) rfl wf_X5_19 dX5_strike_13 ?_
    refine sd_iload_n C dX5_strike_16 1 rfl rfl ?_
    refine sd_zald C (by decide) rfl (x1.toInt.toNat) ⟨by omega, by omega⟩ dX5_strike_17 ?_
    refine sd_if_eq C 25 dX5_strike_18 (by decide) (fun c18 => ?_) (fun c18 => ?_)
    · refine sd_iconst C dX5_strike_25 (by decide) (fun k25 ek25 => ?_)
      refine sd_istore_n (lv' := [(3, .int k25), (0, .ref (ad 76)), (1, .int x1), (2, .int x2)]) C dX5_strike_26 rfl (by decide) rfl ?_
      refine sd_aload_n C dX5_strike_27 1 rfl rfl ?_
      refine sd_get C (by decide) rfl rfl 4 (by decide) rfl wf_X5_19 dX5_strike_28 ?_
      refine sd_iload_n C dX5_strike_31 2 rfl rfl ?_
      refine sd_iload_n C dX5_strike_32 3 rfl rfl ?_
      refine sd_zast C (by decide) (fun _ => rfl) (x1.toInt.toNat) ⟨by omega, by omega⟩ (by omega) dX5_strike_33 (fun s33 es33 => ?_)
      refine sd_iload_n C dX5_strike_34 0 rfl rfl ?_
      exact hret _ _ _ _ dX5_strike_35 (⟨by
          unfold an_strike
          repeat' split
          all_goals omega, by
          unfold up_strike
          rw [if_neg (by omega), es33]
          exact sd_MR_set hM rfl (by omega), fun i k hi => by rw [es33, sd_st_ne (by omega)]⟩)
    · refine sd_iconst C dX5_strike_21 (by decide) (fun k21 ek21 => ?_)
      refine sd_goto C 26 dX5_strike_22 (by decide) ?_
      refine sd_istore_n (lv' := [(3, .int k21), (0, .ref (ad 76)), (1, .int x1), (2, .int x2)]) C dX5_strike_26 rfl (by decide) rfl ?_
      refine sd_aload_n C dX5_strike_27 1 rfl rfl ?_
      refine sd_get C (by decide) rfl rfl 4 (by decide) rfl wf_X5_19 dX5_strike_28 ?_
      refine sd_iload_n C dX5_strike_31 2 rfl rfl ?_
      refine sd_iload_n C dX5_strike_32 3 rfl rfl ?_
      refine sd_zast C (by decide) (fun _ => rfl) (x1.toInt.toNat) ⟨by omega, by omega⟩ (by omega) dX5_strike_33 (fun s33 es33 => ?_)
      refine sd_iload_n C dX5_strike_34 0 rfl rfl ?_
      exact hret _ _ _ _ dX5_strike_35 (⟨by
          unfold an_strike
          repeat' split
          all_goals omega, by
          unfold up_strike
          rw [if_neg (by omega), es33]
          exact sd_MR_set hM rfl (by omega), fun i k hi => by rw [es33, sd_st_ne (by omega)]⟩)
  · refine sd_sipush C dX5_strike_8 (by decide) (fun k8 ek8 => ?_)
    exact hret _ _ _ _ dX5_strike_11 (⟨by
        unfold an_strike
        repeat' split
        all_goals omega, by
        unfold up_strike
        rw [if_pos (by omega)]; exact hM, fun _ _ _ => rfl⟩)

set_option maxRecDepth 20000 in
set_option maxHeartbeats 4000000 in
theorem c_X5_join (l : Launch) (D : va_G) (ad : Nat → Nat) (ca : Nat → ClassId) (T : Nat → Nat) (σ : sd_Mem) (β : sp_B) (hM : sd_MR σ β) (hG : sd_RG β) (x1 x2 : Int32) : sd_Ci l yX5_join cX5_join 5 2 D ad ca T σ [.ref (ad 76), .int x1, .int x2] (fun r σ' => r.toInt = an_join β x1.toInt x2.toInt ∧ sd_MR σ' (up_join β x1.toInt x2.toInt) ∧ sd_lo σ σ') := by
  refine sd_ent_i (own := RX5) (by decide) rfl (Nat.le_of_ble_eq_true rfl) (fun X C hret => ?_)
  show sd_Wd X 5 D ad ca σ [(0, .ref (ad 76)), (1, .int x1), (2, .int x2)] 0 []
  have hN := sp_n_le hG
  have hn1 := hM.1.1
  refine sd_iload_n C dX5_join_0 1 rfl rfl ?_
  refine sd_i2l C dX5_join_1 (fun g1 eg1 => ?_)
  refine sd_ldc2 C dX5_join_2 wk_X5_80 (n := 12) (by decide) (fun k2 ek2 => ?_)
  refine sd_ldc2 C dX5_join_5 wk_X5_59 (n := 23) (by decide) (fun k5 ek5 => ?_)
  refine sd_pSz C (c_X5_in l D ad ca T σ g1 k2 k5) mv_X5_in wm_X5_61 (by decide) rfl rfl (Nat.le_of_ble_eq_true rfl) dX5_join_8 (fun r8 h8 => ?_)
  try dsimp only at h8
  refine sd_if_eq C 26 dX5_join_11 (by decide) (fun c11 => ?_) (fun c11 => ?_)
  · refine sd_sipush C dX5_join_26 (by decide) (fun k26 ek26 => ?_)
    exact hret _ _ _ _ dX5_join_29 (⟨by
        unfold an_join
        repeat' split
        all_goals omega, by
        unfold up_join
        rw [if_pos (by omega)]; exact hM, fun _ _ _ => rfl⟩)
  · refine sd_iload_n C dX5_join_14 2 rfl rfl ?_
    refine sd_i2l C dX5_join_15 (fun g15 eg15 => ?_)
    refine sd_lconst C dX5_join_16 (z := 0) (by decide) (fun k16 ek16 => ?_)
    refine sd_ldc2 C dX5_join_17 wk_X5_82 (n := 11) (by decide) (fun k17 ek17 => ?_)
    refine sd_pSz C (c_X5_in l D ad ca T σ g15 k16 k17) mv_X5_in wm_X5_61 (by decide) rfl rfl (Nat.le_of_ble_eq_true rfl) dX5_join_20 (fun r20 h20 => ?_)
    try dsimp only at h20
    refine sd_if_ne C 30 dX5_join_23 (by decide) (fun c23 => ?_) (fun c23 => ?_)
    · have t1 := hM.2.2.1 x1.toInt.toNat (by omega)
      refine sd_aload_n C dX5_join_30 0 rfl rfl ?_
      refine sd_get C (by decide) rfl rfl 5 (by decide) rfl wf_X5_23 dX5_join_31 ?_
      refine sd_iload_n C dX5_join_34 1 rfl rfl ?_
      refine sd_iald C (by decide) rfl (x1.toInt.toNat) ⟨by omega, by omega⟩ dX5_join_35 ?_
      refine sd_if_lt C 43 dX5_join_36 (by decide) (fun c36 => ?_) (fun c36 => ?_)
      · refine sd_aload_n C dX5_join_43 0 rfl rfl ?_
        refine sd_get C (by decide) rfl rfl 5 (by decide) rfl wf_X5_23 dX5_join_44 ?_
        refine sd_iload_n C dX5_join_47 1 rfl rfl ?_
        refine sd_iload_n C dX5_join_48 2 rfl rfl ?_
        refine sd_iast C (by decide) (fun _ => rfl) (x1.toInt.toNat) ⟨by omega, by omega⟩ dX5_join_49 (fun s49 es49 => ?_)
        have g0 : s49 76 0 = σ 76 0 := by rw [es49, sd_st_ne (by decide)]
        have g9 : (s49 76 0).toInt = β 0 0 := by rw [g0]; exact hn1
        refine sd_iconst C dX5_join_50 (by decide) (fun k50 ek50 => ?_)
        refine sd_istore_n (lv' := [(3, .int k50), (0, .ref (ad 76)), (1, .int x1), (2, .int x2)]) C dX5_join_51 rfl (by decide) rfl ?_
        refine sd_iconst C dX5_join_52 (by decide) (fun k52 ek52 => ?_)
        refine sd_istore (lv' := [(4, .int k52), (3, .int k50), (0, .ref (ad 76)), (1, .int x1), (2, .int x2)]) C dX5_join_53 (by decide) rfl ?_
        have key55 : ∀ (fu55 : Nat) (y3 : Int32) (y4 : Int32) (c : Nat), (y4.toInt = (c : Int)) → (c ≤ sp_n β) → (y3.toInt = (sp_ct (sp_mine β x1.toInt.toNat) c : Int)) → (sp_n β - c < fu55) → sd_Wd X 5 D ad ca s49 [(4, .int y4), (3, .int y3), (0, .ref (ad 76)), (1, .int x1), (2, .int x2)] 55 [] := by
          intro fu55
          induction fu55 with
          | zero => intro y3 y4 c h4 hc h3 hm55; exact absurd hm55 (Nat.not_lt_zero _)
          | succ fu55 ih55 =>
            intro y3 y4 c h4 hc h3 hm55
            refine sd_iload C dX5_join_55 0 rfl ?_
            refine sd_aload_n C dX5_join_57 2 rfl rfl ?_
            refine sd_get C (by decide) rfl rfl 0 (by decide) rfl wf_X5_65 dX5_join_58 ?_
            refine sd_icmp_ge C 89 dX5_join_61 (by decide) (fun c61 => ?_) (fun c61 => ?_)
            · refine sd_iload_n C dX5_join_89 1 rfl rfl ?_
              exact hret _ _ _ _ dX5_join_90 (by
                  have ec : sp_n β = c := by omega
                  have eo : (sp_owned β x1.toInt.toNat : Int) = y3.toInt := by unfold sp_owned; rw [ec]; exact h3.symm
                  exact ⟨by
                    unfold an_join
                    repeat' split
                    all_goals omega, by
                    unfold up_join
                    rw [if_neg (by omega), es49]
                    exact sd_MR_set hM rfl (by omega), fun i k hi => by rw [es49, sd_st_ne (by omega)]⟩)
            · have g1 := hM.2.1 c (by omega)
              have g2 : s49 78 c = σ 78 c := by rw [es49, sd_st_ne (by decide)]
              rw [← g2] at g1
              have hle := sp_ct_le (p := sp_mine β x1.toInt.toNat) c
              have hmm := sp_mine_mark hG (m := x1.toInt.toNat) (c := c) (by omega) (by omega) (by omega) (by omega)
              refine sd_iload_n C dX5_join_64 1 rfl rfl ?_
              refine sd_aload_n C dX5_join_65 2 rfl rfl ?_
              refine sd_get C (by decide) rfl rfl 2 (by decide) rfl wf_X5_13 dX5_join_66 ?_
              refine sd_iload C dX5_join_69 0 rfl ?_
              refine sd_iald C (by decide) rfl (c) ⟨by omega, by omega⟩ dX5_join_71 ?_
              refine sd_iload_n C dX5_join_72 3 rfl rfl ?_
              refine sd_icmp_ne C 80 dX5_join_73 (by decide) (fun c73 => ?_) (fun c73 => ?_)
              · refine sd_iconst C dX5_join_80 (by decide) (fun k80 ek80 => ?_)
                refine sd_iadd C dX5_join_81 (by omega) (fun z81 ez81 => ?_)
                refine sd_istore_n (lv' := [(3, .int z81), (4, .int y4), (0, .ref (ad 76)), (1, .int x1), (2, .int x2)]) C dX5_join_82 rfl (by decide) rfl ?_
                refine sd_iinc C dX5_join_83 1 rfl (by decide) (by decide) (by omega) (fun zz => [(4, .int zz), (3, .int z81), (0, .ref (ad 76)), (1, .int x1), (2, .int x2)]) (fun _ => rfl) (fun u83 eu83 => ?_)
                refine sd_goto C 55 dX5_join_86 (by decide) ?_
                exact ih55 z81 u83 (c + 1) (by omega) (by omega) (by first | (rw [sp_ct_s (by rw [hmm]; exact decide_eq_true (by omega))]; omega) | (rw [sp_ct_k (by rw [hmm]; exact decide_eq_false (by omega))]; omega)) (by omega)
              · refine sd_iconst C dX5_join_76 (by decide) (fun k76 ek76 => ?_)
                refine sd_goto C 81 dX5_join_77 (by decide) ?_
                refine sd_iadd C dX5_join_81 (by omega) (fun z81 ez81 => ?_)
                refine sd_istore_n (lv' := [(3, .int z81), (4, .int y4), (0, .ref (ad 76)), (1, .int x1), (2, .int x2)]) C dX5_join_82 rfl (by decide) rfl ?_
                refine sd_iinc C dX5_join_83 1 rfl (by decide) (by decide) (by omega) (fun zz => [(4, .int zz), (3, .int z81), (0, .ref (ad 76)), (1, .int x1), (2, .int x2)]) (fun _ => rfl) (fun u83 eu83 => ?_)
                refine sd_goto C 55 dX5_join_86 (by decide) ?_
                exact ih55 z81 u83 (c + 1) (by omega) (by omega) (by first | (rw [sp_ct_s (by rw [hmm]; exact decide_eq_true (by omega))]; omega) | (rw [sp_ct_k (by rw [hmm]; exact decide_eq_false (by omega))]; omega)) (by omega)
        exact key55 _ k50 k52 0 (by omega) (by omega) (by rw [sp_ct]; exact ek50) (Nat.lt_succ_self _)
      · refine sd_sipush C dX5_join_39 (by decide) (fun k39 ek39 => ?_)
        exact hret _ _ _ _ dX5_join_42 (⟨by
            unfold an_join
            repeat' split
            all_goals omega, by
            unfold up_join
            rw [if_pos (by omega)]; exact hM, fun _ _ _ => rfl⟩)
    · refine sd_sipush C dX5_join_26 (by decide) (fun k26 ek26 => ?_)
      exact hret _ _ _ _ dX5_join_29 (⟨by
          unfold an_join
          repeat' split
          all_goals omega, by
          unfold up_join
          rw [if_pos (by omega)]; exact hM, fun _ _ _ => rfl⟩)

set_option maxRecDepth 20000 in
set_option maxHeartbeats 4000000 in
theorem c_X5_rule (l : Launch) (D : va_G) (ad : Nat → Nat) (ca : Nat → ClassId) (T : Nat → Nat) (σ : sd_Mem) (β : sp_B) (hM : sd_MR σ β) (hG : sd_RG β) (x1 x2 : Int32) : sd_Ci l yX5_rule cX5_rule 6 2 D ad ca T σ [.ref (ad 76), .int x1, .int x2] (fun r σ' => r.toInt = an_rule β x1.toInt x2.toInt ∧ sd_MR σ' (up_rule β x1.toInt x2.toInt) ∧ sd_lo σ σ') := by
  refine sd_ent_i (own := RX5) (by decide) rfl (Nat.le_of_ble_eq_true rfl) (fun X C hret => ?_)
  show sd_Wd X 6 D ad ca σ [(0, .ref (ad 76)), (1, .int x1), (2, .int x2)] 0 []
  have hN := sp_n_le hG
  have hn1 := hM.1.1
  have key36 : ∀ (y3 : Int32), (0 ≤ x1.toInt ∧ x1.toInt < 6) → (y3.toInt = sp_lo x1.toInt) → sd_Wd X 6 D ad ca σ [(3, .int y3), (0, .ref (ad 76)), (1, .int x1), (2, .int x2)] 36 [] := by
      intro y3 hx0 h3
      have key74 : ∀ (y4 : Int32), (y4.toInt = sp_hi x1.toInt) → sd_Wd X 6 D ad ca σ [(4, .int y4), (3, .int y3), (0, .ref (ad 76)), (1, .int x1), (2, .int x2)] 74 [] := by
          intro y4 h4
          refine sd_iload_n C dX5_rule_74 4 rfl rfl ?_
          refine sd_i2l C dX5_rule_75 (fun g75 eg75 => ?_)
          refine sd_iload_n C dX5_rule_76 1 rfl rfl ?_
          refine sd_i2l C dX5_rule_77 (fun g77 eg77 => ?_)
          refine sd_iload C dX5_rule_78 0 rfl ?_
          refine sd_i2l C dX5_rule_80 (fun g80 eg80 => ?_)
          refine sd_pSz C (c_X5_in l D ad ca T σ g75 g77 g80) mv_X5_in wm_X5_61 (by decide) rfl rfl (Nat.le_of_ble_eq_true rfl) dX5_rule_81 (fun r81 h81 => ?_)
          try dsimp only at h81
          refine sd_if_ne C 91 dX5_rule_84 (by decide) (fun c84 => ?_) (fun c84 => ?_)
          · have t2 := hM.2.2.2.1 x1.toInt.toNat (by omega)
            refine sd_aload_n C dX5_rule_91 2 rfl rfl ?_
            refine sd_get C (by decide) rfl rfl 6 (by decide) rfl wf_X5_26 dX5_rule_92 ?_
            refine sd_iload_n C dX5_rule_95 3 rfl rfl ?_
            refine sd_iald C (by decide) rfl (x1.toInt.toNat) ⟨by omega, by omega⟩ dX5_rule_96 ?_
            refine sd_istore (lv' := [(5, .int (σ 82 (x1.toInt.toNat))), (4, .int y4), (3, .int y3), (0, .ref (ad 76)), (1, .int x1), (2, .int x2)]) C dX5_rule_97 (by decide) rfl ?_
            refine sd_aload_n C dX5_rule_99 3 rfl rfl ?_
            refine sd_get C (by decide) rfl rfl 6 (by decide) rfl wf_X5_26 dX5_rule_100 ?_
            refine sd_iload_n C dX5_rule_103 4 rfl rfl ?_
            refine sd_iload_n C dX5_rule_104 5 rfl rfl ?_
            refine sd_iast C (by decide) (fun _ => rfl) (x1.toInt.toNat) ⟨by omega, by omega⟩ dX5_rule_105 (fun s105 es105 => ?_)
            refine sd_iload C dX5_rule_106 0 rfl ?_
            exact hret _ _ _ _ dX5_rule_108 (⟨by
                unfold an_rule
                repeat' split
                all_goals omega, by
                unfold up_rule
                rw [if_neg (by omega), es105]
                exact sd_MR_set hM rfl (by omega), fun i k hi => by rw [es105, sd_st_ne (by omega)]⟩)
          · refine sd_sipush C dX5_rule_87 (by decide) (fun k87 ek87 => ?_)
            exact hret _ _ _ _ dX5_rule_90 (⟨by
                unfold an_rule
                repeat' split
                all_goals omega, by
                unfold up_rule
                rw [if_pos (by omega)]; exact hM, fun _ _ _ => rfl⟩)
      refine sd_iload_n C dX5_rule_36 2 rfl rfl ?_
      refine sd_if_eq C 45 dX5_rule_37 (by decide) (fun c37 => ?_) (fun c37 => ?_)
      · refine sd_sipush C dX5_rule_45 (by decide) (fun k45 ek45 => ?_)
        refine sd_goto C 72 dX5_rule_48 (by decide) ?_
        refine sd_istore (lv' := [(4, .int k45), (3, .int y3), (0, .ref (ad 76)), (1, .int x1), (2, .int x2)]) C dX5_rule_72 (by decide) rfl ?_
        exact key74 k45 (by unfold sp_hi; (repeat' split) <;> omega)
      · refine sd_iload_n C dX5_rule_40 2 rfl rfl ?_
        refine sd_iconst C dX5_rule_41 (by decide) (fun k41 ek41 => ?_)
        refine sd_icmp_ne C 51 dX5_rule_42 (by decide) (fun c42 => ?_) (fun c42 => ?_)
        · refine sd_iload_n C dX5_rule_51 2 rfl rfl ?_
          refine sd_iconst C dX5_rule_52 (by decide) (fun k52 ek52 => ?_)
          refine sd_icmp_ne C 60 dX5_rule_53 (by decide) (fun c53 => ?_) (fun c53 => ?_)
          · refine sd_iload_n C dX5_rule_60 2 rfl rfl ?_
            refine sd_iconst C dX5_rule_61 (by decide) (fun k61 ek61 => ?_)
            refine sd_icmp_ne C 70 dX5_rule_62 (by decide) (fun c62 => ?_) (fun c62 => ?_)
            · refine sd_bipush C dX5_rule_70 (by decide) (fun k70 ek70 => ?_)
              refine sd_istore (lv' := [(4, .int k70), (3, .int y3), (0, .ref (ad 76)), (1, .int x1), (2, .int x2)]) C dX5_rule_72 (by decide) rfl ?_
              exact key74 k70 (by unfold sp_hi; (repeat' split) <;> omega)
            · refine sd_bipush C dX5_rule_65 (by decide) (fun k65 ek65 => ?_)
              refine sd_goto C 72 dX5_rule_67 (by decide) ?_
              refine sd_istore (lv' := [(4, .int k65), (3, .int y3), (0, .ref (ad 76)), (1, .int x1), (2, .int x2)]) C dX5_rule_72 (by decide) rfl ?_
              exact key74 k65 (by unfold sp_hi; (repeat' split) <;> omega)
          · refine sd_iconst C dX5_rule_56 (by decide) (fun k56 ek56 => ?_)
            refine sd_goto C 72 dX5_rule_57 (by decide) ?_
            refine sd_istore (lv' := [(4, .int k56), (3, .int y3), (0, .ref (ad 76)), (1, .int x1), (2, .int x2)]) C dX5_rule_72 (by decide) rfl ?_
            exact key74 k56 (by unfold sp_hi; (repeat' split) <;> omega)
        · refine sd_sipush C dX5_rule_45 (by decide) (fun k45 ek45 => ?_)
          refine sd_goto C 72 dX5_rule_48 (by decide) ?_
          refine sd_istore (lv' := [(4, .int k45), (3, .int y3), (0, .ref (ad 76)), (1, .int x1), (2, .int x2)]) C dX5_rule_72 (by decide) rfl ?_
          exact key74 k45 (by unfold sp_hi; (repeat' split) <;> omega)
  refine sd_iload_n C dX5_rule_0 1 rfl rfl ?_
  refine sd_i2l C dX5_rule_1 (fun g1 eg1 => ?_)
  refine sd_lconst C dX5_rule_2 (z := 0) (by decide) (fun k2 ek2 => ?_)
  refine sd_ldc2 C dX5_rule_3 wk_X5_84 (n := 5) (by decide) (fun k3 ek3 => ?_)
  refine sd_pSz C (c_X5_in l D ad ca T σ g1 k2 k3) mv_X5_in wm_X5_61 (by decide) rfl rfl (Nat.le_of_ble_eq_true rfl) dX5_rule_6 (fun r6 h6 => ?_)
  try dsimp only at h6
  refine sd_if_ne C 16 dX5_rule_9 (by decide) (fun c9 => ?_) (fun c9 => ?_)
  · refine sd_iload_n C dX5_rule_16 1 rfl rfl ?_
    refine sd_iconst C dX5_rule_17 (by decide) (fun k17 ek17 => ?_)
    refine sd_icmp_ne C 25 dX5_rule_18 (by decide) (fun c18 => ?_) (fun c18 => ?_)
    · refine sd_iload_n C dX5_rule_25 1 rfl rfl ?_
      refine sd_iconst C dX5_rule_26 (by decide) (fun k26 ek26 => ?_)
      refine sd_icmp_ne C 34 dX5_rule_27 (by decide) (fun c27 => ?_) (fun c27 => ?_)
      · refine sd_iconst C dX5_rule_34 (by decide) (fun k34 ek34 => ?_)
        refine sd_istore_n (lv' := [(3, .int k34), (0, .ref (ad 76)), (1, .int x1), (2, .int x2)]) C dX5_rule_35 rfl (by decide) rfl ?_
        exact key36 k34 (by omega) (by unfold sp_lo; (repeat' split) <;> omega)
      · refine sd_iconst C dX5_rule_30 (by decide) (fun k30 ek30 => ?_)
        refine sd_goto C 35 dX5_rule_31 (by decide) ?_
        refine sd_istore_n (lv' := [(3, .int k30), (0, .ref (ad 76)), (1, .int x1), (2, .int x2)]) C dX5_rule_35 rfl (by decide) rfl ?_
        exact key36 k30 (by omega) (by unfold sp_lo; (repeat' split) <;> omega)
    · refine sd_iconst C dX5_rule_21 (by decide) (fun k21 ek21 => ?_)
      refine sd_goto C 35 dX5_rule_22 (by decide) ?_
      refine sd_istore_n (lv' := [(3, .int k21), (0, .ref (ad 76)), (1, .int x1), (2, .int x2)]) C dX5_rule_35 rfl (by decide) rfl ?_
      exact key36 k21 (by omega) (by unfold sp_lo; (repeat' split) <;> omega)
  · refine sd_sipush C dX5_rule_12 (by decide) (fun k12 ek12 => ?_)
    exact hret _ _ _ _ dX5_rule_15 (⟨by
        unfold an_rule
        repeat' split
        all_goals omega, by
        unfold up_rule
        rw [if_pos (by omega)]; exact hM, fun _ _ _ => rfl⟩)

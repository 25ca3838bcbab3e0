set_option maxRecDepth 20000 in
set_option maxHeartbeats 4000000 in
theorem c_X4_countingClicks (l : Launch) (D : va_G) (ad : Nat → Nat) (ca : Nat → ClassId) (T : Nat → Nat) (σ : sd_Mem) (β : sp_B) (hS : sd_CS σ β) : sd_Ci l yX4_countingClicks cX4_countingClicks 3 0 D ad ca T σ [.ref (ad 0)] (fun r σ' => σ' = σ ∧ (r.toInt = sp_sum (fun q => ((sp_row β q).length : Int)) 24)) := by
  refine sd_ent_i (own := RX4) (by decide) rfl (Nat.le_of_ble_eq_true rfl) (fun X C hret => ?_)
  show sd_Wd X 3 D ad ca σ [(0, .ref (ad 0))] 0 []
  obtain ⟨hC, hG, hB, hL⟩ := id hS
  have hN := sp_n_le hG
  refine sd_iconst C dX4_countingClicks_0 (by decide) (fun k0 ek0 => ?_)
  refine sd_istore_n (lv' := [(1, .int k0), (0, .ref (ad 0))]) C dX4_countingClicks_1 rfl (by decide) rfl ?_
  refine sd_iconst C dX4_countingClicks_2 (by decide) (fun k2 ek2 => ?_)
  refine sd_istore_n (lv' := [(2, .int k2), (1, .int k0), (0, .ref (ad 0))]) C dX4_countingClicks_3 rfl (by decide) rfl ?_
  have key4 : ∀ (fu4 : Nat) (y1 : Int32) (y2 : Int32) (p : Nat), (y2.toInt = (p : Int)) → (p ≤ 24) → (y1.toInt = sp_sum (fun q => ((sp_row β q).length : Int)) p) → (24 - p < fu4) → sd_Wd X 3 D ad ca σ [(2, .int y2), (1, .int y1), (0, .ref (ad 0))] 4 [] := by
    intro fu4
    induction fu4 with
    | zero => intro y1 y2 p h2 hp h1 hm4; exact absurd hm4 (Nat.not_lt_zero _)
    | succ fu4 ih4 =>
      intro y1 y2 p h2 hp h1 hm4
      have hr := sp_sum_rng (f := (fun q => ((sp_row β q).length : Int))) (m := 120) (fun q => by have := (sp_row_ok hG q).1; omega) p
      refine sd_iload_n C dX4_countingClicks_4 0 rfl rfl ?_
      refine sd_bipush C dX4_countingClicks_5 (by decide) (fun k5 ek5 => ?_)
      refine sd_icmp_ge C 28 dX4_countingClicks_7 (by decide) (fun c7 => ?_) (fun c7 => ?_)
      · refine sd_iload_n C dX4_countingClicks_28 1 rfl rfl ?_
        exact hret _ _ _ _ dX4_countingClicks_29 (⟨rfl, by rw [show (24 : Nat) = p by omega]; exact h1⟩)
      · have L1 := (hL.1 p (by omega)).1.1
        have L2 := (sp_row_ok hG p).1
        refine sd_iload_n C dX4_countingClicks_10 1 rfl rfl ?_
        refine sd_aload_n C dX4_countingClicks_11 2 rfl rfl ?_
        refine sd_get C (by decide) rfl rfl 3 (by decide) rfl wf_X4_22 dX4_countingClicks_12 ?_
        refine sd_iload_n C dX4_countingClicks_15 0 rfl rfl ?_
        refine sd_aald9 C (p) ⟨by omega, by omega⟩ dX4_countingClicks_16 ?_
        refine sd_get C (by omega) (sd_cell_row _ (by omega)) rfl 2 (by decide) rfl wf_X4_106 dX4_countingClicks_17 ?_
        refine sd_iadd C dX4_countingClicks_20 (by omega) (fun z20 ez20 => ?_)
        refine sd_istore_n (lv' := [(1, .int z20), (2, .int y2), (0, .ref (ad 0))]) C dX4_countingClicks_21 rfl (by decide) rfl ?_
        refine sd_iinc C dX4_countingClicks_22 1 rfl (by decide) (by decide) (by omega) (fun zz => [(2, .int zz), (1, .int z20), (0, .ref (ad 0))]) (fun _ => rfl) (fun u22 eu22 => ?_)
        refine sd_goto C 4 dX4_countingClicks_25 (by decide) ?_
        exact ih4 z20 u22 (p + 1) (by omega) (by omega) (by rw [sp_sum, ez20]; omega) (by omega)
  exact key4 _ k0 k2 0 (by omega) (by omega) (by rw [sp_sum]; exact ek0) (Nat.lt_succ_self _)

set_option maxRecDepth 20000 in
set_option maxHeartbeats 4000000 in
theorem c_X4_allSittings (l : Launch) (D : va_G) (ad : Nat → Nat) (ca : Nat → ClassId) (T : Nat → Nat) (σ : sd_Mem) (β : sp_B) (hS : sd_CS σ β) : sd_Ci l yX4_allSittings cX4_allSittings 3 0 D ad ca T σ [.ref (ad 0)] (fun r σ' => σ' = σ ∧ (r.toInt = sp_sum (fun q => (sp_ns β (sp_row β q) (sp_row β q).length : Int)) 24)) := by
  refine sd_ent_i (own := RX4) (by decide) rfl (Nat.le_of_ble_eq_true rfl) (fun X C hret => ?_)
  show sd_Wd X 3 D ad ca σ [(0, .ref (ad 0))] 0 []
  obtain ⟨hC, hG, hB, hL⟩ := id hS
  have hN := sp_n_le hG
  refine sd_iconst C dX4_allSittings_0 (by decide) (fun k0 ek0 => ?_)
  refine sd_istore_n (lv' := [(1, .int k0), (0, .ref (ad 0))]) C dX4_allSittings_1 rfl (by decide) rfl ?_
  refine sd_iconst C dX4_allSittings_2 (by decide) (fun k2 ek2 => ?_)
  refine sd_istore_n (lv' := [(2, .int k2), (1, .int k0), (0, .ref (ad 0))]) C dX4_allSittings_3 rfl (by decide) rfl ?_
  have key4 : ∀ (fu4 : Nat) (y1 : Int32) (y2 : Int32) (p : Nat), (y2.toInt = (p : Int)) → (p ≤ 24) → (y1.toInt = sp_sum (fun q => (sp_ns β (sp_row β q) (sp_row β q).length : Int)) p) → (24 - p < fu4) → sd_Wd X 3 D ad ca σ [(2, .int y2), (1, .int y1), (0, .ref (ad 0))] 4 [] := by
    intro fu4
    induction fu4 with
    | zero => intro y1 y2 p h2 hp h1 hm4; exact absurd hm4 (Nat.not_lt_zero _)
    | succ fu4 ih4 =>
      intro y1 y2 p h2 hp h1 hm4
      have hr := sp_sum_rng (f := (fun q => (sp_ns β (sp_row β q) (sp_row β q).length : Int))) (m := 120) (fun q => by have := (sp_row_ok hG q).1; have := sp_ns_le β (sp_row β q) (sp_row β q).length; omega) p
      refine sd_iload_n C dX4_allSittings_4 0 rfl rfl ?_
      refine sd_bipush C dX4_allSittings_5 (by decide) (fun k5 ek5 => ?_)
      refine sd_icmp_ge C 28 dX4_allSittings_7 (by decide) (fun c7 => ?_) (fun c7 => ?_)
      · refine sd_iload_n C dX4_allSittings_28 1 rfl rfl ?_
        exact hret _ _ _ _ dX4_allSittings_29 (⟨rfl, by rw [show (24 : Nat) = p by omega]; exact h1⟩)
      · have L1 := (hL.1 p (by omega)).2.2.2
        have L2 := (sp_row_ok hG p).1
        have L3 := sp_ns_le β (sp_row β p) (sp_row β p).length
        refine sd_iload_n C dX4_allSittings_10 1 rfl rfl ?_
        refine sd_aload_n C dX4_allSittings_11 2 rfl rfl ?_
        refine sd_get C (by decide) rfl rfl 3 (by decide) rfl wf_X4_22 dX4_allSittings_12 ?_
        refine sd_iload_n C dX4_allSittings_15 0 rfl rfl ?_
        refine sd_aald9 C (p) ⟨by omega, by omega⟩ dX4_allSittings_16 ?_
        refine sd_get C (by omega) (sd_cell_row _ (by omega)) rfl 5 (by decide) rfl wf_X4_113 dX4_allSittings_17 ?_
        refine sd_iadd C dX4_allSittings_20 (by omega) (fun z20 ez20 => ?_)
        refine sd_istore_n (lv' := [(1, .int z20), (2, .int y2), (0, .ref (ad 0))]) C dX4_allSittings_21 rfl (by decide) rfl ?_
        refine sd_iinc C dX4_allSittings_22 1 rfl (by decide) (by decide) (by omega) (fun zz => [(2, .int zz), (1, .int z20), (0, .ref (ad 0))]) (fun _ => rfl) (fun u22 eu22 => ?_)
        refine sd_goto C 4 dX4_allSittings_25 (by decide) ?_
        exact ih4 z20 u22 (p + 1) (by omega) (by omega) (by rw [sp_sum, ez20]; omega) (by omega)
  exact key4 _ k0 k2 0 (by omega) (by omega) (by rw [sp_sum]; exact ek0) (Nat.lt_succ_self _)

set_option maxRecDepth 20000 in
set_option maxHeartbeats 4000000 in
theorem c_X4_presentPersons (l : Launch) (D : va_G) (ad : Nat → Nat) (ca : Nat → ClassId) (T : Nat → Nat) (σ : sd_Mem) (β : sp_B) (hS : sd_CS σ β) : sd_Ci l yX4_presentPersons cX4_presentPersons 3 1 D ad ca T σ [.ref (ad 0)] (fun r σ' => σ' = σ ∧ (r.toInt = sp_sum (fun q => sp_b (decide (0 < (sp_row β q).length))) 24)) := by
  refine sd_ent_i (own := RX4) (by decide) rfl (Nat.le_of_ble_eq_true rfl) (fun X C hret => ?_)
  show sd_Wd X 3 D ad ca σ [(0, .ref (ad 0))] 0 []
  obtain ⟨hC, hG, hB, hL⟩ := id hS
  have hN := sp_n_le hG
  refine sd_iconst C dX4_presentPersons_0 (by decide) (fun k0 ek0 => ?_)
  refine sd_istore_n (lv' := [(1, .int k0), (0, .ref (ad 0))]) C dX4_presentPersons_1 rfl (by decide) rfl ?_
  refine sd_iconst C dX4_presentPersons_2 (by decide) (fun k2 ek2 => ?_)
  refine sd_istore_n (lv' := [(2, .int k2), (1, .int k0), (0, .ref (ad 0))]) C dX4_presentPersons_3 rfl (by decide) rfl ?_
  have key4 : ∀ (fu4 : Nat) (y1 : Int32) (y2 : Int32) (p : Nat), (y2.toInt = (p : Int)) → (p ≤ 24) → (y1.toInt = sp_sum (fun q => sp_b (decide (0 < (sp_row β q).length))) p) → (24 - p < fu4) → sd_Wd X 3 D ad ca σ [(2, .int y2), (1, .int y1), (0, .ref (ad 0))] 4 [] := by
    intro fu4
    induction fu4 with
    | zero => intro y1 y2 p h2 hp h1 hm4; exact absurd hm4 (Nat.not_lt_zero _)
    | succ fu4 ih4 =>
      intro y1 y2 p h2 hp h1 hm4
      have hr := sp_sum_b (fun q => decide (0 < (sp_row β q).length)) p hp
      refine sd_iload_n C dX4_presentPersons_4 0 rfl rfl ?_
      refine sd_bipush C dX4_presentPersons_5 (by decide) (fun k5 ek5 => ?_)
      refine sd_icmp_ge C 39 dX4_presentPersons_7 (by decide) (fun c7 => ?_) (fun c7 => ?_)
      · refine sd_iload_n C dX4_presentPersons_39 1 rfl rfl ?_
        exact hret _ _ _ _ dX4_presentPersons_40 (⟨rfl, by rw [show (24 : Nat) = p by omega]; exact h1⟩)
      · have L1 := (hL.1 p (by omega)).1.1
        have L2 := (sp_row_ok hG p).1
        refine sd_iload_n C dX4_presentPersons_10 1 rfl rfl ?_
        refine sd_aload_n C dX4_presentPersons_11 2 rfl rfl ?_
        refine sd_get C (by decide) rfl rfl 3 (by decide) rfl wf_X4_22 dX4_presentPersons_12 ?_
        refine sd_iload_n C dX4_presentPersons_15 0 rfl rfl ?_
        refine sd_aald9 C (p) ⟨by omega, by omega⟩ dX4_presentPersons_16 ?_
        refine sd_get C (by omega) (sd_cell_row _ (by omega)) rfl 2 (by decide) rfl wf_X4_106 dX4_presentPersons_17 ?_
        refine sd_if_le C 27 dX4_presentPersons_20 (by decide) (fun c20 => ?_) (fun c20 => ?_)
        · refine sd_iconst C dX4_presentPersons_27 (by decide) (fun k27 ek27 => ?_)
          refine sd_pSi C (c_X4_bit l D ad ca T σ k27) mv_X4_bit wm_X4_78 (by decide) rfl rfl (Nat.le_of_ble_eq_true rfl) dX4_presentPersons_28 (fun r28 h28 => ?_)
          try dsimp only at h28
          refine sd_iadd C dX4_presentPersons_31 (by omega) (fun z31 ez31 => ?_)
          refine sd_istore_n (lv' := [(1, .int z31), (2, .int y2), (0, .ref (ad 0))]) C dX4_presentPersons_32 rfl (by decide) rfl ?_
          refine sd_iinc C dX4_presentPersons_33 1 rfl (by decide) (by decide) (by omega) (fun zz => [(2, .int zz), (1, .int z31), (0, .ref (ad 0))]) (fun _ => rfl) (fun u33 eu33 => ?_)
          refine sd_goto C 4 dX4_presentPersons_36 (by decide) ?_
          exact ih4 z31 u33 (p + 1) (by omega) (by omega) (by first | (rw [sp_sum_s (v := 1) (sp_b1 (decide_eq_true (by omega)))]; omega) | (rw [sp_sum_s (v := 0) (sp_b0 (decide_eq_false (by omega)))]; omega)) (by omega)
        · refine sd_iconst C dX4_presentPersons_23 (by decide) (fun k23 ek23 => ?_)
          refine sd_goto C 28 dX4_presentPersons_24 (by decide) ?_
          refine sd_pSi C (c_X4_bit l D ad ca T σ k23) mv_X4_bit wm_X4_78 (by decide) rfl rfl (Nat.le_of_ble_eq_true rfl) dX4_presentPersons_28 (fun r28 h28 => ?_)
          try dsimp only at h28
          refine sd_iadd C dX4_presentPersons_31 (by omega) (fun z31 ez31 => ?_)
          refine sd_istore_n (lv' := [(1, .int z31), (2, .int y2), (0, .ref (ad 0))]) C dX4_presentPersons_32 rfl (by decide) rfl ?_
          refine sd_iinc C dX4_presentPersons_33 1 rfl (by decide) (by decide) (by omega) (fun zz => [(2, .int zz), (1, .int z31), (0, .ref (ad 0))]) (fun _ => rfl) (fun u33 eu33 => ?_)
          refine sd_goto C 4 dX4_presentPersons_36 (by decide) ?_
          exact ih4 z31 u33 (p + 1) (by omega) (by omega) (by first | (rw [sp_sum_s (v := 1) (sp_b1 (decide_eq_true (by omega)))]; omega) | (rw [sp_sum_s (v := 0) (sp_b0 (decide_eq_false (by omega)))]; omega)) (by omega)
  exact key4 _ k0 k2 0 (by omega) (by omega) (by rw [sp_sum]; exact ek0) (Nat.lt_succ_self _)

set_option maxRecDepth 20000 in
set_option maxHeartbeats 4000000 in
theorem c_X4_quickPersons (l : Launch) (D : va_G) (ad : Nat → Nat) (ca : Nat → ClassId) (T : Nat → Nat) (σ : sd_Mem) (β : sp_B) (hS : sd_CS σ β) : sd_Ci l yX4_quickPersons cX4_quickPersons 3 1 D ad ca T σ [.ref (ad 0)] (fun r σ' => σ' = σ ∧ (r.toInt = sp_sum (fun q => sp_b (sp_quick β (sp_raw β q))) 24)) := by
  refine sd_ent_i (own := RX4) (by decide) rfl (Nat.le_of_ble_eq_true rfl) (fun X C hret => ?_)
  show sd_Wd X 3 D ad ca σ [(0, .ref (ad 0))] 0 []
  obtain ⟨hC, hG, hB, hL⟩ := id hS
  have hN := sp_n_le hG
  refine sd_iconst C dX4_quickPersons_0 (by decide) (fun k0 ek0 => ?_)
  refine sd_istore_n (lv' := [(1, .int k0), (0, .ref (ad 0))]) C dX4_quickPersons_1 rfl (by decide) rfl ?_
  refine sd_iconst C dX4_quickPersons_2 (by decide) (fun k2 ek2 => ?_)
  refine sd_istore_n (lv' := [(2, .int k2), (1, .int k0), (0, .ref (ad 0))]) C dX4_quickPersons_3 rfl (by decide) rfl ?_
  have key4 : ∀ (fu4 : Nat) (y1 : Int32) (y2 : Int32) (p : Nat), (y2.toInt = (p : Int)) → (p ≤ 24) → (y1.toInt = sp_sum (fun q => sp_b (sp_quick β (sp_raw β q))) p) → (24 - p < fu4) → sd_Wd X 3 D ad ca σ [(2, .int y2), (1, .int y1), (0, .ref (ad 0))] 4 [] := by
    intro fu4
    induction fu4 with
    | zero => intro y1 y2 p h2 hp h1 hm4; exact absurd hm4 (Nat.not_lt_zero _)
    | succ fu4 ih4 =>
      intro y1 y2 p h2 hp h1 hm4
      have hr := sp_sum_b (fun q => sp_quick β (sp_raw β q)) p hp
      refine sd_iload_n C dX4_quickPersons_4 0 rfl rfl ?_
      refine sd_bipush C dX4_quickPersons_5 (by decide) (fun k5 ek5 => ?_)
      refine sd_icmp_ge C 31 dX4_quickPersons_7 (by decide) (fun c7 => ?_) (fun c7 => ?_)
      · refine sd_iload_n C dX4_quickPersons_31 1 rfl rfl ?_
        exact hret _ _ _ _ dX4_quickPersons_32 (⟨rfl, by rw [show (24 : Nat) = p by omega]; exact h1⟩)
      · have L1 := (hL.1 p (by omega)).2.2.1
        refine sd_iload_n C dX4_quickPersons_10 1 rfl rfl ?_
        refine sd_aload_n C dX4_quickPersons_11 2 rfl rfl ?_
        refine sd_get C (by decide) rfl rfl 3 (by decide) rfl wf_X4_22 dX4_quickPersons_12 ?_
        refine sd_iload_n C dX4_quickPersons_15 0 rfl rfl ?_
        refine sd_aald9 C (p) ⟨by omega, by omega⟩ dX4_quickPersons_16 ?_
        refine sd_get C (by omega) (sd_cell_row _ (by omega)) rfl 4 (by decide) rfl wf_X4_109 dX4_quickPersons_17 ?_
        refine sd_pSi C (c_X4_bit l D ad ca T σ (σ (16 + p) 4)) mv_X4_bit wm_X4_78 (by decide) rfl rfl (Nat.le_of_ble_eq_true rfl) dX4_quickPersons_20 (fun r20 h20 => ?_)
        try dsimp only at h20
        refine sd_iadd C dX4_quickPersons_23 (by omega) (fun z23 ez23 => ?_)
        refine sd_istore_n (lv' := [(1, .int z23), (2, .int y2), (0, .ref (ad 0))]) C dX4_quickPersons_24 rfl (by decide) rfl ?_
        refine sd_iinc C dX4_quickPersons_25 1 rfl (by decide) (by decide) (by omega) (fun zz => [(2, .int zz), (1, .int z23), (0, .ref (ad 0))]) (fun _ => rfl) (fun u25 eu25 => ?_)
        refine sd_goto C 4 dX4_quickPersons_28 (by decide) ?_
        exact ih4 z23 u25 (p + 1) (by omega) (by omega) (by
              cases hk : sp_quick β (sp_raw β p)
              · rw [hk] at L1; simp at L1; rw [sp_sum_s (v := 0) (sp_b0 hk)]; omega
              · rw [hk] at L1; simp at L1; rw [sp_sum_s (v := 1) (sp_b1 hk)]; omega) (by omega)
  exact key4 _ k0 k2 0 (by omega) (by omega) (by rw [sp_sum]; exact ek0) (Nat.lt_succ_self _)

set_option maxRecDepth 20000 in
set_option maxHeartbeats 4000000 in
theorem c_X4_joinedMarks (l : Launch) (D : va_G) (ad : Nat → Nat) (ca : Nat → ClassId) (T : Nat → Nat) (σ : sd_Mem) (β : sp_B) (hS : sd_CS σ β) : sd_Ci l yX4_joinedMarks cX4_joinedMarks 3 1 D ad ca T σ [.ref (ad 0)] (fun r σ' => σ' = σ ∧ (r.toInt = sp_sum (fun q => sp_b (decide (β 5 q ≠ (q : Int)))) 24)) := by
  refine sd_ent_i (own := RX4) (by decide) rfl (Nat.le_of_ble_eq_true rfl) (fun X C hret => ?_)
  show sd_Wd X 3 D ad ca σ [(0, .ref (ad 0))] 0 []
  obtain ⟨hC, hG, hB, hL⟩ := id hS
  have hN := sp_n_le hG
  refine sd_iconst C dX4_joinedMarks_0 (by decide) (fun k0 ek0 => ?_)
  refine sd_istore_n (lv' := [(1, .int k0), (0, .ref (ad 0))]) C dX4_joinedMarks_1 rfl (by decide) rfl ?_
  refine sd_iconst C dX4_joinedMarks_2 (by decide) (fun k2 ek2 => ?_)
  refine sd_istore_n (lv' := [(2, .int k2), (1, .int k0), (0, .ref (ad 0))]) C dX4_joinedMarks_3 rfl (by decide) rfl ?_
  have key4 : ∀ (fu4 : Nat) (y1 : Int32) (y2 : Int32) (p : Nat), (y2.toInt = (p : Int)) → (p ≤ 24) → (y1.toInt = sp_sum (fun q => sp_b (decide (β 5 q ≠ (q : Int)))) p) → (24 - p < fu4) → sd_Wd X 3 D ad ca σ [(2, .int y2), (1, .int y1), (0, .ref (ad 0))] 4 [] := by
    intro fu4
    induction fu4 with
    | zero => intro y1 y2 p h2 hp h1 hm4; exact absurd hm4 (Nat.not_lt_zero _)
    | succ fu4 ih4 =>
      intro y1 y2 p h2 hp h1 hm4
      have hr := sp_sum_b (fun q => decide (β 5 q ≠ (q : Int))) p hp
      refine sd_iload_n C dX4_joinedMarks_4 0 rfl rfl ?_
      refine sd_bipush C dX4_joinedMarks_5 (by decide) (fun k5 ek5 => ?_)
      refine sd_icmp_ge C 27 dX4_joinedMarks_7 (by decide) (fun c7 => ?_) (fun c7 => ?_)
      · refine sd_iload_n C dX4_joinedMarks_27 1 rfl rfl ?_
        exact hret _ _ _ _ dX4_joinedMarks_28 (⟨rfl, by rw [show (24 : Nat) = p by omega]; exact h1⟩)
      · have L1 := hC.2.2.1 p (by omega)
        have hyp : y2.toInt.toNat = p := by omega
        refine sd_iload_n C dX4_joinedMarks_10 1 rfl rfl ?_
        refine sd_aload_n C dX4_joinedMarks_11 2 rfl rfl ?_
        refine sd_iload_n C dX4_joinedMarks_12 0 rfl rfl ?_
        refine sd_pVz C (c_X4_isJoined l D ad ca T σ y2 (by omega) (by omega)) mv_X4_isJoined wm_X4_85 (by decide) rfl rfl (by decide) rfl rfl (Nat.le_of_ble_eq_true rfl) dX4_joinedMarks_13 (fun r13 h13 => ?_)
        try dsimp only at h13
        rw [hyp] at h13
        refine sd_pSi C (c_X4_bit l D ad ca T σ r13) mv_X4_bit wm_X4_78 (by decide) rfl rfl (Nat.le_of_ble_eq_true rfl) dX4_joinedMarks_16 (fun r16 h16 => ?_)
        try dsimp only at h16
        refine sd_iadd C dX4_joinedMarks_19 (by omega) (fun z19 ez19 => ?_)
        refine sd_istore_n (lv' := [(1, .int z19), (2, .int y2), (0, .ref (ad 0))]) C dX4_joinedMarks_20 rfl (by decide) rfl ?_
        refine sd_iinc C dX4_joinedMarks_21 1 rfl (by decide) (by decide) (by omega) (fun zz => [(2, .int zz), (1, .int z19), (0, .ref (ad 0))]) (fun _ => rfl) (fun u21 eu21 => ?_)
        refine sd_goto C 4 dX4_joinedMarks_24 (by decide) ?_
        exact ih4 z19 u21 (p + 1) (by omega) (by omega) (by
              by_cases hk : β 5 p = (p : Int)
              · rw [sp_sum_s (v := 0) (sp_b0 (decide_eq_false (fun z => z hk)))]; omega
              · rw [sp_sum_s (v := 1) (sp_b1 (decide_eq_true hk))]; omega) (by omega)
  exact key4 _ k0 k2 0 (by omega) (by omega) (by rw [sp_sum]; exact ek0) (Nat.lt_succ_self _)

set_option maxRecDepth 20000 in
set_option maxHeartbeats 4000000 in
theorem c_X4_count (l : Launch) (D : va_G) (ad : Nat → Nat) (ca : Nat → ClassId) (T : Nat → Nat) (σ : sd_Mem) (β : sp_B) (hS : sd_CS σ β) (x1 : Int32) : sd_Ci l yX4_count cX4_count 2 2 D ad ca T σ [.ref (ad 0), .int x1] (fun r σ' => σ' = σ ∧ (r.toInt = an_count β x1.toInt)) := by
  refine sd_ent_i (own := RX4) (by decide) rfl (Nat.le_of_ble_eq_true rfl) (fun X C hret => ?_)
  show sd_Wd X 2 D ad ca σ [(0, .ref (ad 0)), (1, .int x1)] 0 []
  obtain ⟨hC, hG, hB, hL⟩ := id hS
  have hN := sp_n_le hG
  have n1 := hC.1.1
  have n2 := hC.1.2
  refine sd_iload_n C dX4_count_0 1 rfl rfl ?_
  have hw1 : x1.toInt = 0 ∨ x1.toInt = 1 ∨ x1.toInt = 2 ∨ x1.toInt = 3 ∨ x1.toInt = 4 ∨ x1.toInt = 5 ∨ x1.toInt = 6 ∨ (x1.toInt ≠ 0 ∧ x1.toInt ≠ 1 ∧ x1.toInt ≠ 2 ∧ x1.toInt ≠ 3 ∧ x1.toInt ≠ 4 ∧ x1.toInt ≠ 5 ∧ x1.toInt ≠ 6) := by omega
  rcases hw1 with w1 | w1 | w1 | w1 | w1 | w1 | w1 | w1
  · refine sd_tableIn C 44 (0) dX4_count_1 w1 (by decide) rfl (by decide) ?_
    refine sd_aload_n C dX4_count_44 0 rfl rfl ?_
    refine sd_get C (by decide) rfl rfl 0 (by decide) rfl wf_X4_10 dX4_count_45 ?_
    refine sd_get C (by decide) rfl rfl 5 (by decide) rfl wf_X4_123 dX4_count_48 ?_
    exact hret _ _ _ _ dX4_count_51 (⟨rfl, by
        unfold an_count
        repeat' split
        all_goals omega⟩)
  · refine sd_tableIn C 52 (1) dX4_count_1 w1 (by decide) rfl (by decide) ?_
    refine sd_aload_n C dX4_count_52 0 rfl rfl ?_
    refine sd_pVi C (c_X4_countingClicks l D ad ca T σ β hS) mv_X4_countingClicks wm_X4_124 (by decide) rfl rfl (by decide) rfl rfl (Nat.le_of_ble_eq_true rfl) dX4_count_53 (fun r53 h53 => ?_)
    try dsimp only at h53
    exact hret _ _ _ _ dX4_count_56 (⟨rfl, by
        unfold an_count
        repeat' split
        all_goals omega⟩)
  · refine sd_tableIn C 57 (2) dX4_count_1 w1 (by decide) rfl (by decide) ?_
    refine sd_aload_n C dX4_count_57 0 rfl rfl ?_
    refine sd_pVi C (c_X4_allSittings l D ad ca T σ β hS) mv_X4_allSittings wm_X4_128 (by decide) rfl rfl (by decide) rfl rfl (Nat.le_of_ble_eq_true rfl) dX4_count_58 (fun r58 h58 => ?_)
    try dsimp only at h58
    exact hret _ _ _ _ dX4_count_61 (⟨rfl, by
        unfold an_count
        repeat' split
        all_goals omega⟩)
  · refine sd_tableIn C 62 (3) dX4_count_1 w1 (by decide) rfl (by decide) ?_
    refine sd_aload_n C dX4_count_62 0 rfl rfl ?_
    refine sd_pVi C (c_X4_presentPersons l D ad ca T σ β hS) mv_X4_presentPersons wm_X4_131 (by decide) rfl rfl (by decide) rfl rfl (Nat.le_of_ble_eq_true rfl) dX4_count_63 (fun r63 h63 => ?_)
    try dsimp only at h63
    exact hret _ _ _ _ dX4_count_66 (⟨rfl, by
        unfold an_count
        repeat' split
        all_goals omega⟩)
  · refine sd_tableIn C 67 (4) dX4_count_1 w1 (by decide) rfl (by decide) ?_
    refine sd_aload_n C dX4_count_67 0 rfl rfl ?_
    refine sd_pVi C (c_X4_quickPersons l D ad ca T σ β hS) mv_X4_quickPersons wm_X4_134 (by decide) rfl rfl (by decide) rfl rfl (Nat.le_of_ble_eq_true rfl) dX4_count_68 (fun r68 h68 => ?_)
    try dsimp only at h68
    exact hret _ _ _ _ dX4_count_71 (⟨rfl, by
        unfold an_count
        repeat' split
        all_goals omega⟩)
  · refine sd_tableIn C 72 (5) dX4_count_1 w1 (by decide) rfl (by decide) ?_
    refine sd_aload_n C dX4_count_72 0 rfl rfl ?_
    refine sd_pVi C (c_X4_joinedMarks l D ad ca T σ β hS) mv_X4_joinedMarks wm_X4_137 (by decide) rfl rfl (by decide) rfl rfl (Nat.le_of_ble_eq_true rfl) dX4_count_73 (fun r73 h73 => ?_)
    try dsimp only at h73
    exact hret _ _ _ _ dX4_count_76 (⟨rfl, by
        unfold an_count
        repeat' split
        all_goals omega⟩)
  · refine sd_tableIn C 77 (6) dX4_count_1 w1 (by decide) rfl (by decide) ?_
    refine sd_aload_n C dX4_count_77 0 rfl rfl ?_
    refine sd_get C (by decide) rfl rfl 7 (by decide) rfl wf_X4_45 dX4_count_78 ?_
    exact hret _ _ _ _ dX4_count_81 (⟨rfl, by
        unfold an_count
        repeat' split
        all_goals omega⟩)
  · refine sd_tableOut C 82 dX4_count_1 (by omega) (by decide) ?_
    refine sd_sipush C dX4_count_82 (by decide) (fun k82 ek82 => ?_)
    exact hret _ _ _ _ dX4_count_85 (⟨rfl, by
        unfold an_count
        repeat' split
        all_goals omega⟩)

set_option maxRecDepth 20000 in
set_option maxHeartbeats 4000000 in
theorem c_X4_born (l : Launch) (D : va_G) (ad : Nat → Nat) (ca : Nat → ClassId) (T : Nat → Nat) (σ : sd_Mem) (β : sp_B) (hS : sd_CS σ β) (x1 : Int32) : sd_Ci l yX4_born cX4_born 4 3 D ad ca T σ [.ref (ad 0), .int x1] (fun r σ' => σ' = σ ∧ (r.toInt = an_born β x1.toInt)) := by
  refine sd_ent_i (own := RX4) (by decide) rfl (Nat.le_of_ble_eq_true rfl) (fun X C hret => ?_)
  show sd_Wd X 4 D ad ca σ [(0, .ref (ad 0)), (1, .int x1)] 0 []
  obtain ⟨hC, hG, hB, hL⟩ := id hS
  have hN := sp_n_le hG
  refine sd_iload_n C dX4_born_0 1 rfl rfl ?_
  refine sd_pSz C (c_X4_isWeek l D ad ca T σ x1) mv_X4_isWeek wm_X4_165 (by decide) rfl rfl (Nat.le_of_ble_eq_true rfl) dX4_born_1 (fun r1 h1 => ?_)
  try dsimp only at h1
  refine sd_if_ne C 11 dX4_born_4 (by decide) (fun c4 => ?_) (fun c4 => ?_)
  · refine sd_iconst C dX4_born_11 (by decide) (fun k11 ek11 => ?_)
    refine sd_istore_n (lv' := [(2, .int k11), (0, .ref (ad 0)), (1, .int x1)]) C dX4_born_12 rfl (by decide) rfl ?_
    refine sd_iconst C dX4_born_13 (by decide) (fun k13 ek13 => ?_)
    refine sd_istore_n (lv' := [(3, .int k13), (2, .int k11), (0, .ref (ad 0)), (1, .int x1)]) C dX4_born_14 rfl (by decide) rfl ?_
    have key15 : ∀ (fu15 : Nat) (y2 : Int32) (y3 : Int32) (p : Nat), (y3.toInt = (p : Int)) → (p ≤ 24) → (y2.toInt = sp_sum (fun q => sp_b (decide (sp_birth β (sp_row β q) = x1.toInt))) p) → (24 - p < fu15) → sd_Wd X 4 D ad ca σ [(3, .int y3), (2, .int y2), (0, .ref (ad 0)), (1, .int x1)] 15 [] := by
      intro fu15
      induction fu15 with
      | zero => intro y2 y3 p h3 hp h2 hm15; exact absurd hm15 (Nat.not_lt_zero _)
      | succ fu15 ih15 =>
        intro y2 y3 p h3 hp h2 hm15
        have hr := sp_sum_b (fun q => decide (sp_birth β (sp_row β q) = x1.toInt)) p hp
        refine sd_iload_n C dX4_born_15 0 rfl rfl ?_
        refine sd_bipush C dX4_born_16 (by decide) (fun k16 ek16 => ?_)
        refine sd_icmp_ge C 49 dX4_born_18 (by decide) (fun c18 => ?_) (fun c18 => ?_)
        · refine sd_iload_n C dX4_born_49 1 rfl rfl ?_
          exact hret _ _ _ _ dX4_born_50 (⟨rfl, by
              unfold an_born
              rw [if_neg (by omega), show (24 : Nat) = p by omega]; exact h2⟩)
        · refine sd_aload_n C dX4_born_21 2 rfl rfl ?_
          refine sd_get C (by decide) rfl rfl 3 (by decide) rfl wf_X4_22 dX4_born_22 ?_
          refine sd_iload_n C dX4_born_25 0 rfl rfl ?_
          refine sd_aald9 C (p) ⟨by omega, by omega⟩ dX4_born_26 ?_
          refine sd_aload_n C dX4_born_27 2 rfl rfl ?_
          refine sd_get C (by decide) rfl rfl 2 (by decide) rfl wf_X4_29 dX4_born_28 ?_
          refine sd_iconst C dX4_born_31 (by decide) (fun k31 ek31 => ?_)
          refine sd_iald C (by decide) rfl (5) ⟨by omega, by omega⟩ dX4_born_32 ?_
          refine sd_pVi C (c_X2_birth l D ad ca T σ β p (sp_row β p) ((hL.1 p (by omega)).rw hC hG) (by omega) (σ 8 5) (hC.2.2.2.1 5 (by decide))) mv_X2_birth wm_X4_116 (by omega) (sd_cell_row _ (by omega)) rfl (by decide) rfl rfl (Nat.le_of_ble_eq_true rfl) dX4_born_33 (fun r33 h33 => ?_)
          try dsimp only at h33
          refine sd_iload_n C dX4_born_36 3 rfl rfl ?_
          refine sd_icmp_ne C 43 dX4_born_37 (by decide) (fun c37 => ?_) (fun c37 => ?_)
          · refine sd_iinc C dX4_born_43 0 rfl (by decide) (by decide) (by omega) (fun zz => [(3, .int zz), (2, .int y2), (0, .ref (ad 0)), (1, .int x1)]) (fun _ => rfl) (fun u43 eu43 => ?_)
            refine sd_goto C 15 dX4_born_46 (by decide) ?_
            exact ih15 y2 u43 (p + 1) (by omega) (by omega) (by
                  by_cases hk : sp_birth β (sp_row β p) = x1.toInt
                  · rw [sp_sum_s (v := 1) (sp_b1 (decide_eq_true hk))]; omega
                  · rw [sp_sum_s (v := 0) (sp_b0 (decide_eq_false hk))]; omega) (by omega)
          · refine sd_iinc C dX4_born_40 1 rfl (by decide) (by decide) (by omega) (fun zz => [(2, .int zz), (3, .int y3), (0, .ref (ad 0)), (1, .int x1)]) (fun _ => rfl) (fun u40 eu40 => ?_)
            refine sd_iinc C dX4_born_43 1 rfl (by decide) (by decide) (by omega) (fun zz => [(3, .int zz), (2, .int u40), (0, .ref (ad 0)), (1, .int x1)]) (fun _ => rfl) (fun u43 eu43 => ?_)
            refine sd_goto C 15 dX4_born_46 (by decide) ?_
            exact ih15 u40 u43 (p + 1) (by omega) (by omega) (by
                  by_cases hk : sp_birth β (sp_row β p) = x1.toInt
                  · rw [sp_sum_s (v := 1) (sp_b1 (decide_eq_true hk))]; omega
                  · rw [sp_sum_s (v := 0) (sp_b0 (decide_eq_false hk))]; omega) (by omega)
    exact key15 _ k11 k13 0 (by omega) (by omega) (by rw [sp_sum]; exact ek11) (Nat.lt_succ_self _)
  · refine sd_sipush C dX4_born_7 (by decide) (fun k7 ek7 => ?_)
    exact hret _ _ _ _ dX4_born_10 (⟨rfl, by
        unfold an_born
        rw [if_pos (by omega)]; omega⟩)

set_option maxRecDepth 20000 in
set_option maxHeartbeats 4000000 in
theorem c_X4_came (l : Launch) (D : va_G) (ad : Nat → Nat) (ca : Nat → ClassId) (T : Nat → Nat) (σ : sd_Mem) (β : sp_B) (hS : sd_CS σ β) (x1 x2 : Int32) : sd_Ci l yX4_came cX4_came 5 3 D ad ca T σ [.ref (ad 0), .int x1, .int x2] (fun r σ' => σ' = σ ∧ (r.toInt = an_came β x1.toInt x2.toInt)) := by
  refine sd_ent_i (own := RX4) (by decide) rfl (Nat.le_of_ble_eq_true rfl) (fun X C hret => ?_)
  show sd_Wd X 5 D ad ca σ [(0, .ref (ad 0)), (1, .int x1), (2, .int x2)] 0 []
  obtain ⟨hC, hG, hB, hL⟩ := id hS
  have hN := sp_n_le hG
  refine sd_iload_n C dX4_came_0 1 rfl rfl ?_
  refine sd_pSz C (c_X4_isWeek l D ad ca T σ x1) mv_X4_isWeek wm_X4_165 (by decide) rfl rfl (Nat.le_of_ble_eq_true rfl) dX4_came_1 (fun r1 h1 => ?_)
  try dsimp only at h1
  refine sd_if_eq C 14 dX4_came_4 (by decide) (fun c4 => ?_) (fun c4 => ?_)
  · refine sd_sipush C dX4_came_14 (by decide) (fun k14 ek14 => ?_)
    exact hret _ _ _ _ dX4_came_17 (⟨rfl, by
        unfold an_came
        rw [if_pos (by omega)]; omega⟩)
  · refine sd_iload_n C dX4_came_7 2 rfl rfl ?_
    refine sd_pSz C (c_X4_isWeek l D ad ca T σ x2) mv_X4_isWeek wm_X4_165 (by decide) rfl rfl (Nat.le_of_ble_eq_true rfl) dX4_came_8 (fun r8 h8 => ?_)
    try dsimp only at h8
    refine sd_if_ne C 18 dX4_came_11 (by decide) (fun c11 => ?_) (fun c11 => ?_)
    · refine sd_iconst C dX4_came_18 (by decide) (fun k18 ek18 => ?_)
      refine sd_istore_n (lv' := [(3, .int k18), (0, .ref (ad 0)), (1, .int x1), (2, .int x2)]) C dX4_came_19 rfl (by decide) rfl ?_
      refine sd_iconst C dX4_came_20 (by decide) (fun k20 ek20 => ?_)
      refine sd_istore (lv' := [(4, .int k20), (3, .int k18), (0, .ref (ad 0)), (1, .int x1), (2, .int x2)]) C dX4_came_21 (by decide) rfl ?_
      have key23 : ∀ (fu23 : Nat) (y3 : Int32) (y4 : Int32) (p : Nat), (y4.toInt = (p : Int)) → (p ≤ 24) → (y3.toInt = sp_sum (fun q => sp_b (decide (sp_birth β (sp_row β q) = x1.toInt) && sp_came β (sp_row β q) (x1.toInt + x2.toInt))) p) → (24 - p < fu23) → sd_Wd X 5 D ad ca σ [(4, .int y4), (3, .int y3), (0, .ref (ad 0)), (1, .int x1), (2, .int x2)] 23 [] := by
        intro fu23
        induction fu23 with
        | zero => intro y3 y4 p h4 hp h3 hm23; exact absurd hm23 (Nat.not_lt_zero _)
        | succ fu23 ih23 =>
          intro y3 y4 p h4 hp h3 hm23
          have hr := sp_sum_b (fun q => decide (sp_birth β (sp_row β q) = x1.toInt) && sp_came β (sp_row β q) (x1.toInt + x2.toInt)) p hp
          refine sd_iload C dX4_came_23 0 rfl ?_
          refine sd_bipush C dX4_came_25 (by decide) (fun k25 ek25 => ?_)
          refine sd_icmp_ge C 75 dX4_came_27 (by decide) (fun c27 => ?_) (fun c27 => ?_)
          · refine sd_iload_n C dX4_came_75 1 rfl rfl ?_
            exact hret _ _ _ _ dX4_came_76 (⟨rfl, by
                unfold an_came
                rw [if_neg (by omega), show (24 : Nat) = p by omega]; exact h3⟩)
          · refine sd_aload_n C dX4_came_30 2 rfl rfl ?_
            refine sd_get C (by decide) rfl rfl 3 (by decide) rfl wf_X4_22 dX4_came_31 ?_
            refine sd_iload C dX4_came_34 0 rfl ?_
            refine sd_aald9 C (p) ⟨by omega, by omega⟩ dX4_came_36 ?_
            refine sd_aload_n C dX4_came_37 2 rfl rfl ?_
            refine sd_get C (by decide) rfl rfl 2 (by decide) rfl wf_X4_29 dX4_came_38 ?_
            refine sd_iconst C dX4_came_41 (by decide) (fun k41 ek41 => ?_)
            refine sd_iald C (by decide) rfl (5) ⟨by omega, by omega⟩ dX4_came_42 ?_
            refine sd_pVi C (c_X2_birth l D ad ca T σ β p (sp_row β p) ((hL.1 p (by omega)).rw hC hG) (by omega) (σ 8 5) (hC.2.2.2.1 5 (by decide))) mv_X2_birth wm_X4_116 (by omega) (sd_cell_row _ (by omega)) rfl (by decide) rfl rfl (Nat.le_of_ble_eq_true rfl) dX4_came_43 (fun r43 h43 => ?_)
            try dsimp only at h43
            refine sd_iload_n C dX4_came_46 3 rfl rfl ?_
            refine sd_icmp_ne C 69 dX4_came_47 (by decide) (fun c47 => ?_) (fun c47 => ?_)
            · refine sd_iinc C dX4_came_69 0 rfl (by decide) (by decide) (by omega) (fun zz => [(4, .int zz), (3, .int y3), (0, .ref (ad 0)), (1, .int x1), (2, .int x2)]) (fun _ => rfl) (fun u69 eu69 => ?_)
              refine sd_goto C 23 dX4_came_72 (by decide) ?_
              exact ih23 y3 u69 (p + 1) (by omega) (by omega) (by
                    by_cases hk : sp_birth β (sp_row β p) = x1.toInt
                    · first
                        | (exfalso; omega)
                        | (rcases h60 with ⟨w1, w2⟩ | ⟨w1, w2⟩
                           · rw [sp_sum_s (v := 1) (sp_b1 (by rw [w2, decide_eq_true hk]; rfl))]; omega
                           · rw [sp_sum_s (v := 0) (sp_b0 (by rw [w2]; simp))]; omega)
                    · rw [sp_sum_s (v := 0) (sp_b0 (by rw [decide_eq_false hk]; rfl))]; omega) (by omega)
            · refine sd_aload_n C dX4_came_50 2 rfl rfl ?_
              refine sd_get C (by decide) rfl rfl 3 (by decide) rfl wf_X4_22 dX4_came_51 ?_
              refine sd_iload C dX4_came_54 0 rfl ?_
              refine sd_aald9 C (p) ⟨by omega, by omega⟩ dX4_came_56 ?_
              refine sd_iload_n C dX4_came_57 3 rfl rfl ?_
              refine sd_iload_n C dX4_came_58 4 rfl rfl ?_
              refine sd_iadd C dX4_came_59 (by omega) (fun z59 ez59 => ?_)
              refine sd_pVz C (c_X2_isIn l D ad ca T σ β p (sp_row β p) ((hL.1 p (by omega)).rw hC hG) (by omega) z59) mv_X2_isIn wm_X4_168 (by omega) (sd_cell_row _ (by omega)) rfl (by decide) rfl rfl (Nat.le_of_ble_eq_true rfl) dX4_came_60 (fun r60 h60 => ?_)
              try dsimp only at h60
              rw [ez59] at h60
              refine sd_if_eq C 69 dX4_came_63 (by decide) (fun c63 => ?_) (fun c63 => ?_)
              · refine sd_iinc C dX4_came_69 0 rfl (by decide) (by decide) (by omega) (fun zz => [(4, .int zz), (3, .int y3), (0, .ref (ad 0)), (1, .int x1), (2, .int x2)]) (fun _ => rfl) (fun u69 eu69 => ?_)
                refine sd_goto C 23 dX4_came_72 (by decide) ?_
                exact ih23 y3 u69 (p + 1) (by omega) (by omega) (by
                      by_cases hk : sp_birth β (sp_row β p) = x1.toInt
                      · first
                          | (exfalso; omega)
                          | (rcases h60 with ⟨w1, w2⟩ | ⟨w1, w2⟩
                             · rw [sp_sum_s (v := 1) (sp_b1 (by rw [w2, decide_eq_true hk]; rfl))]; omega
                             · rw [sp_sum_s (v := 0) (sp_b0 (by rw [w2]; simp))]; omega)
                      · rw [sp_sum_s (v := 0) (sp_b0 (by rw [decide_eq_false hk]; rfl))]; omega) (by omega)
              · refine sd_iinc C dX4_came_66 1 rfl (by decide) (by decide) (by omega) (fun zz => [(3, .int zz), (4, .int y4), (0, .ref (ad 0)), (1, .int x1), (2, .int x2)]) (fun _ => rfl) (fun u66 eu66 => ?_)
                refine sd_iinc C dX4_came_69 1 rfl (by decide) (by decide) (by omega) (fun zz => [(4, .int zz), (3, .int u66), (0, .ref (ad 0)), (1, .int x1), (2, .int x2)]) (fun _ => rfl) (fun u69 eu69 => ?_)
                refine sd_goto C 23 dX4_came_72 (by decide) ?_
                exact ih23 u66 u69 (p + 1) (by omega) (by omega) (by
                      by_cases hk : sp_birth β (sp_row β p) = x1.toInt
                      · first
                          | (exfalso; omega)
                          | (rcases h60 with ⟨w1, w2⟩ | ⟨w1, w2⟩
                             · rw [sp_sum_s (v := 1) (sp_b1 (by rw [w2, decide_eq_true hk]; rfl))]; omega
                             · rw [sp_sum_s (v := 0) (sp_b0 (by rw [w2]; simp))]; omega)
                      · rw [sp_sum_s (v := 0) (sp_b0 (by rw [decide_eq_false hk]; rfl))]; omega) (by omega)
      exact key23 _ k18 k20 0 (by omega) (by omega) (by rw [sp_sum]; exact ek18) (Nat.lt_succ_self _)
    · refine sd_sipush C dX4_came_14 (by decide) (fun k14 ek14 => ?_)
      exact hret _ _ _ _ dX4_came_17 (⟨rfl, by
          unfold an_came
          rw [if_pos (by omega)]; omega⟩)

set_option maxRecDepth 20000 in
set_option maxHeartbeats 4000000 in
theorem c_X4_digestWith (l : Launch) (D : va_G) (ad : Nat → Nat) (ca : Nat → ClassId) (T : Nat → Nat) (σ : sd_Mem) (β : sp_B) (hS : sd_CS σ β) (q : Nat) (hq : q < 24) (x1 : Int32) : sd_Ci l yX4_digestWith cX4_digestWith 6 3 D ad ca T σ [.ref (ad 0), .int x1, .ref (ad (16 + q))] (fun r σ' => σ' = σ ∧ (r = 31 * sp_dl β (sp_row β q) x1 (sp_row β q).length + Int32.ofInt (sp_birth β (sp_row β q)))) := by
  refine sd_ent_i (own := RX4) (by decide) rfl (Nat.le_of_ble_eq_true rfl) (fun X C hret => ?_)
  show sd_Wd X 6 D ad ca σ [(0, .ref (ad 0)), (1, .int x1), (2, .ref (ad (16 + q)))] 0 []
  obtain ⟨hC, hG, hB, hL⟩ := id hS
  have hN := sp_n_le hG
  have hLr := hL.1 q hq
  have hW := hLr.rw hC hG
  have L0 := hLr.1.1
  have hok := sp_row_ok hG q
  have kk31 : ∀ k : Int32, k.toInt = 31 → k = 31 := fun k h => Int32.toInt_inj.mp (by rw [h]; rfl)
  refine sd_iload_n C dX4_digestWith_0 1 rfl rfl ?_
  refine sd_istore_n (lv' := [(3, .int x1), (0, .ref (ad 0)), (1, .int x1), (2, .ref (ad (16 + q)))]) C dX4_digestWith_1 rfl (by decide) rfl ?_
  refine sd_iconst C dX4_digestWith_2 (by decide) (fun k2 ek2 => ?_)
  refine sd_istore (lv' := [(4, .int k2), (3, .int x1), (0, .ref (ad 0)), (1, .int x1), (2, .ref (ad (16 + q)))]) C dX4_digestWith_3 (by decide) rfl ?_
  have key5 : ∀ (fu5 : Nat) (y3 : Int32) (y4 : Int32) (j : Nat), (y4.toInt = (j : Int)) → (j ≤ (sp_row β q).length) → (y3 = sp_dl β (sp_row β q) x1 j) → ((sp_row β q).length - j < fu5) → sd_Wd X 6 D ad ca σ [(4, .int y4), (3, .int y3), (0, .ref (ad 0)), (1, .int x1), (2, .ref (ad (16 + q)))] 5 [] := by
    intro fu5
    induction fu5 with
    | zero => intro y3 y4 j h4 hj h3 hm5; exact absurd hm5 (Nat.not_lt_zero _)
    | succ fu5 ih5 =>
      intro y3 y4 j h4 hj h3 hm5
      refine sd_iload C dX4_digestWith_5 0 rfl ?_
      refine sd_aload_n C dX4_digestWith_7 4 rfl rfl ?_
      refine sd_get C (by omega) (sd_cell_row _ (by omega)) rfl 2 (by decide) rfl wf_X4_106 dX4_digestWith_8 ?_
      refine sd_icmp_ge C 50 dX4_digestWith_11 (by decide) (fun c11 => ?_) (fun c11 => ?_)
      · refine sd_bipush C dX4_digestWith_50 (by decide) (fun k50 ek50 => ?_)
        refine sd_iload_n C dX4_digestWith_52 1 rfl rfl ?_
        refine sd_imulW C dX4_digestWith_53 ?_
        refine sd_aload_n C dX4_digestWith_54 4 rfl rfl ?_
        refine sd_aload_n C dX4_digestWith_55 2 rfl rfl ?_
        refine sd_get C (by decide) rfl rfl 2 (by decide) rfl wf_X4_29 dX4_digestWith_56 ?_
        refine sd_iconst C dX4_digestWith_59 (by decide) (fun k59 ek59 => ?_)
        refine sd_iald C (by decide) rfl (5) ⟨by omega, by omega⟩ dX4_digestWith_60 ?_
        refine sd_pVi C (c_X2_birth l D ad ca T σ β q (sp_row β q) hW hq (σ 8 5) (hC.2.2.2.1 5 (by decide))) mv_X2_birth wm_X4_116 (by omega) (sd_cell_row _ (by omega)) rfl (by decide) rfl rfl (Nat.le_of_ble_eq_true rfl) dX4_digestWith_61 (fun r61 h61 => ?_)
        try dsimp only at h61
        refine sd_iaddW C dX4_digestWith_64 ?_
        exact hret _ _ _ _ dX4_digestWith_65 (⟨rfl, by rw [kk31 _ ek50, h3, sd_ofInt h61, show (sp_row β q).length = j by omega]⟩)
      · have t1 := hW.at (j := j) (by omega)
        have t2 := (sd_CS.at hS hq (j := j) (by omega)).1
        have t3 := hLr.1.2 j (by omega)
        refine sd_aload_n C dX4_digestWith_14 4 rfl rfl ?_
        refine sd_get C (by omega) (sd_cell_row _ (by omega)) rfl 1 (by decide) rfl wf_X4_121 dX4_digestWith_15 ?_
        refine sd_iload C dX4_digestWith_18 0 rfl ?_
        refine sd_iald C (by omega) (sd_cell_rowA _ (by omega)) (j) ⟨by omega, by omega⟩ dX4_digestWith_20 ?_
        refine sd_istore (lv' := [(5, .int (σ (40 + q) (j))), (4, .int y4), (3, .int y3), (0, .ref (ad 0)), (1, .int x1), (2, .ref (ad (16 + q)))]) C dX4_digestWith_21 (by decide) rfl ?_
        refine sd_bipush C dX4_digestWith_23 (by decide) (fun k23 ek23 => ?_)
        refine sd_iload_n C dX4_digestWith_25 2 rfl rfl ?_
        refine sd_imulW C dX4_digestWith_26 ?_
        refine sd_iload C dX4_digestWith_27 0 rfl ?_
        refine sd_iaddW C dX4_digestWith_29 ?_
        refine sd_istore_n (lv' := [(3, .int ((k23 * y3) + (σ (40 + q) (j)))), (5, .int (σ (40 + q) (j))), (4, .int y4), (0, .ref (ad 0)), (1, .int x1), (2, .ref (ad (16 + q)))]) C dX4_digestWith_30 rfl (by decide) rfl ?_
        refine sd_bipush C dX4_digestWith_31 (by decide) (fun k31 ek31 => ?_)
        refine sd_iload_n C dX4_digestWith_33 0 rfl rfl ?_
        refine sd_imulW C dX4_digestWith_34 ?_
        refine sd_aload_n C dX4_digestWith_35 3 rfl rfl ?_
        refine sd_get C (by decide) rfl rfl 5 (by decide) rfl wf_X4_35 dX4_digestWith_36 ?_
        refine sd_iload C dX4_digestWith_39 1 rfl ?_
        refine sd_iald C (by decide) rfl ((sp_row β q).getD j 0) ⟨by omega, by omega⟩ dX4_digestWith_41 ?_
        refine sd_iaddW C dX4_digestWith_42 ?_
        refine sd_istore_n (lv' := [(3, .int ((k31 * ((k23 * y3) + (σ (40 + q) (j)))) + (σ 11 ((sp_row β q).getD j 0)))), (5, .int (σ (40 + q) (j))), (4, .int y4), (0, .ref (ad 0)), (1, .int x1), (2, .ref (ad (16 + q)))]) C dX4_digestWith_43 rfl (by decide) rfl ?_
        refine sd_iinc C dX4_digestWith_44 2 rfl (by decide) (by decide) (by omega) (fun zz => [(4, .int zz), (3, .int ((k31 * ((k23 * y3) + (σ (40 + q) (j)))) + (σ 11 ((sp_row β q).getD j 0)))), (5, .int (σ (40 + q) (j))), (0, .ref (ad 0)), (1, .int x1), (2, .ref (ad (16 + q)))]) (fun _ => rfl) (fun u44 eu44 => ?_)
        refine sd_goto C 5 dX4_digestWith_47 (by decide) ?_
        exact sd_lv (ih5 ((k31 * ((k23 * y3) + (σ (40 + q) (j)))) + (σ 11 ((sp_row β q).getD j 0))) u44 (j + 1) (by omega) (by omega) (by rw [sp_dl, kk31 _ ek23, kk31 _ ek31, h3, sd_ofInt t2, sd_ofInt t3]) (by omega)) [0, 1, 3, 4, 5] rfl
  exact key5 _ x1 k2 0 (by omega) (by omega) rfl (Nat.lt_succ_self _)

set_option maxRecDepth 20000 in
set_option maxHeartbeats 4000000 in
theorem c_X4_digest (l : Launch) (D : va_G) (ad : Nat → Nat) (ca : Nat → ClassId) (T : Nat → Nat) (σ : sd_Mem) (β : sp_B) (hS : sd_CS σ β) : sd_Ci l yX4_digest cX4_digest 3 4 D ad ca T σ [.ref (ad 0)] (fun r σ' => σ' = σ ∧ (r = sp_dg β 24)) := by
  refine sd_ent_i (own := RX4) (by decide) rfl (Nat.le_of_ble_eq_true rfl) (fun X C hret => ?_)
  show sd_Wd X 3 D ad ca σ [(0, .ref (ad 0))] 0 []
  obtain ⟨hC, hG, hB, hL⟩ := id hS
  have hN := sp_n_le hG
  refine sd_bipush C dX4_digest_0 (by decide) (fun k0 ek0 => ?_)
  refine sd_istore_n (lv' := [(1, .int k0), (0, .ref (ad 0))]) C dX4_digest_2 rfl (by decide) rfl ?_
  refine sd_iconst C dX4_digest_3 (by decide) (fun k3 ek3 => ?_)
  refine sd_istore_n (lv' := [(2, .int k3), (1, .int k0), (0, .ref (ad 0))]) C dX4_digest_4 rfl (by decide) rfl ?_
  have key5 : ∀ (fu5 : Nat) (y1 : Int32) (y2 : Int32) (p : Nat), (y2.toInt = (p : Int)) → (p ≤ 24) → (y1 = sp_dg β p) → (24 - p < fu5) → sd_Wd X 3 D ad ca σ [(2, .int y2), (1, .int y1), (0, .ref (ad 0))] 5 [] := by
    intro fu5
    induction fu5 with
    | zero => intro y1 y2 p h2 hp h1 hm5; exact absurd hm5 (Nat.not_lt_zero _)
    | succ fu5 ih5 =>
      intro y1 y2 p h2 hp h1 hm5
      refine sd_iload_n C dX4_digest_5 0 rfl rfl ?_
      refine sd_bipush C dX4_digest_6 (by decide) (fun k6 ek6 => ?_)
      refine sd_icmp_ge C 37 dX4_digest_8 (by decide) (fun c8 => ?_) (fun c8 => ?_)
      · refine sd_iload_n C dX4_digest_37 1 rfl rfl ?_
        exact hret _ _ _ _ dX4_digest_38 (⟨rfl, by rw [show (24 : Nat) = p by omega]; exact h1⟩)
      · refine sd_aload_n C dX4_digest_11 2 rfl rfl ?_
        refine sd_iload_n C dX4_digest_12 0 rfl rfl ?_
        refine sd_pVz C (c_X4_isJoined l D ad ca T σ y2 (by omega) (by omega)) mv_X4_isJoined wm_X4_85 (by decide) rfl rfl (by decide) rfl rfl (Nat.le_of_ble_eq_true rfl) dX4_digest_13 (fun r13 h13 => ?_)
        try dsimp only at h13
        rw [show y2.toInt.toNat = p by omega] at h13
        have t1 := hC.2.2.1 p (by omega)
        refine sd_if_ne C 31 dX4_digest_16 (by decide) (fun c16 => ?_) (fun c16 => ?_)
        · refine sd_iinc C dX4_digest_31 0 rfl (by decide) (by decide) (by omega) (fun zz => [(2, .int zz), (1, .int y1), (0, .ref (ad 0))]) (fun _ => rfl) (fun u31 eu31 => ?_)
          refine sd_goto C 5 dX4_digest_34 (by decide) ?_
          exact ih5 y1 u31 (p + 1) (by omega) (by omega) (by rw [sp_dg, if_neg (by omega)]; exact h1) (by omega)
        · refine sd_aload_n C dX4_digest_19 2 rfl rfl ?_
          refine sd_iload_n C dX4_digest_20 1 rfl rfl ?_
          refine sd_aload_n C dX4_digest_21 2 rfl rfl ?_
          refine sd_get C (by decide) rfl rfl 3 (by decide) rfl wf_X4_22 dX4_digest_22 ?_
          refine sd_iload_n C dX4_digest_25 0 rfl rfl ?_
          refine sd_aald9 C (p) ⟨by omega, by omega⟩ dX4_digest_26 ?_
          refine sd_pVi C (c_X4_digestWith l D ad ca T σ β hS p (by omega) y1) mv_X4_digestWith wm_X4_171 (by decide) rfl rfl (by decide) rfl rfl (Nat.le_of_ble_eq_true rfl) dX4_digest_27 (fun r27 h27 => ?_)
          try dsimp only at h27
          refine sd_istore_n (lv' := [(1, .int r27), (2, .int y2), (0, .ref (ad 0))]) C dX4_digest_30 rfl (by decide) rfl ?_
          refine sd_iinc C dX4_digest_31 1 rfl (by decide) (by decide) (by omega) (fun zz => [(2, .int zz), (1, .int r27), (0, .ref (ad 0))]) (fun _ => rfl) (fun u31 eu31 => ?_)
          refine sd_goto C 5 dX4_digest_34 (by decide) ?_
          exact ih5 r27 u31 (p + 1) (by omega) (by omega) (by rw [sp_dg, if_pos (by omega), h27, h1]) (by omega)
  exact key5 _ k0 k3 0 (by omega) (by omega) (Int32.toInt_inj.mp (by rw [ek0]; rfl)) (Nat.lt_succ_self _)

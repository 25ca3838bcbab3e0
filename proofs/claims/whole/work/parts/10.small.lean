set_option maxRecDepth 20000 in
set_option maxHeartbeats 4000000 in
theorem c_X4_isWho (l : Launch) (D : va_G) (ad : Nat → Nat) (ca : Nat → ClassId) (T : Nat → Nat) (σ : sd_Mem) (x : Int32) : sd_Cz l yX4_isWho cX4_isWho 1 0 D ad ca T σ [.int x] (fun r σ' => σ' = σ ∧ ((r.toInt = 1 ∧ 0 ≤ x.toInt ∧ x.toInt < 24) ∨ (r.toInt = 0 ∧ (x.toInt < 0 ∨ 24 ≤ x.toInt)))) := by
  refine sd_ent_z (own := RX4) (by decide) rfl (Nat.le_of_ble_eq_true rfl) (fun X C hret => ?_)
  show sd_Wd X 1 D ad ca σ [(0, .int x)] 0 []
  refine sd_iload_n C dX4_isWho_0 0 rfl rfl ?_
  refine sd_if_lt C 14 dX4_isWho_1 (by decide) (fun c1 => ?_) (fun c1 => ?_)
  · refine sd_iconst C dX4_isWho_14 (by decide) (fun k14 ek14 => ?_)
    exact hret _ _ _ _ dX4_isWho_15 (by omega) (⟨rfl, by omega⟩)
  · refine sd_iload_n C dX4_isWho_4 0 rfl rfl ?_
    refine sd_bipush C dX4_isWho_5 (by decide) (fun k5 ek5 => ?_)
    refine sd_icmp_ge C 14 dX4_isWho_7 (by decide) (fun c7 => ?_) (fun c7 => ?_)
    · refine sd_iconst C dX4_isWho_14 (by decide) (fun k14 ek14 => ?_)
      exact hret _ _ _ _ dX4_isWho_15 (by omega) (⟨rfl, by omega⟩)
    · refine sd_iconst C dX4_isWho_10 (by decide) (fun k10 ek10 => ?_)
      refine sd_goto C 15 dX4_isWho_11 (by decide) ?_
      exact hret _ _ _ _ dX4_isWho_15 (by omega) (⟨rfl, by omega⟩)

set_option maxRecDepth 20000 in
set_option maxHeartbeats 4000000 in
theorem c_X4_isName (l : Launch) (D : va_G) (ad : Nat → Nat) (ca : Nat → ClassId) (T : Nat → Nat) (σ : sd_Mem) (x : Int32) : sd_Cz l yX4_isName cX4_isName 1 0 D ad ca T σ [.int x] (fun r σ' => σ' = σ ∧ ((r.toInt = 1 ∧ 0 ≤ x.toInt ∧ x.toInt < 12) ∨ (r.toInt = 0 ∧ (x.toInt < 0 ∨ 12 ≤ x.toInt)))) := by
  refine sd_ent_z (own := RX4) (by decide) rfl (Nat.le_of_ble_eq_true rfl) (fun X C hret => ?_)
  show sd_Wd X 1 D ad ca σ [(0, .int x)] 0 []
  refine sd_iload_n C dX4_isName_0 0 rfl rfl ?_
  refine sd_if_lt C 14 dX4_isName_1 (by decide) (fun c1 => ?_) (fun c1 => ?_)
  · refine sd_iconst C dX4_isName_14 (by decide) (fun k14 ek14 => ?_)
    exact hret _ _ _ _ dX4_isName_15 (by omega) (⟨rfl, by omega⟩)
  · refine sd_iload_n C dX4_isName_4 0 rfl rfl ?_
    refine sd_bipush C dX4_isName_5 (by decide) (fun k5 ek5 => ?_)
    refine sd_icmp_ge C 14 dX4_isName_7 (by decide) (fun c7 => ?_) (fun c7 => ?_)
    · refine sd_iconst C dX4_isName_14 (by decide) (fun k14 ek14 => ?_)
      exact hret _ _ _ _ dX4_isName_15 (by omega) (⟨rfl, by omega⟩)
    · refine sd_iconst C dX4_isName_10 (by decide) (fun k10 ek10 => ?_)
      refine sd_goto C 15 dX4_isName_11 (by decide) ?_
      exact hret _ _ _ _ dX4_isName_15 (by omega) (⟨rfl, by omega⟩)

set_option maxRecDepth 20000 in
set_option maxHeartbeats 4000000 in
theorem c_X4_isSort (l : Launch) (D : va_G) (ad : Nat → Nat) (ca : Nat → ClassId) (T : Nat → Nat) (σ : sd_Mem) (x : Int32) : sd_Cz l yX4_isSort cX4_isSort 1 0 D ad ca T σ [.int x] (fun r σ' => σ' = σ ∧ ((r.toInt = 1 ∧ 0 ≤ x.toInt ∧ x.toInt < 8) ∨ (r.toInt = 0 ∧ (x.toInt < 0 ∨ 8 ≤ x.toInt)))) := by
  refine sd_ent_z (own := RX4) (by decide) rfl (Nat.le_of_ble_eq_true rfl) (fun X C hret => ?_)
  show sd_Wd X 1 D ad ca σ [(0, .int x)] 0 []
  refine sd_iload_n C dX4_isSort_0 0 rfl rfl ?_
  refine sd_if_lt C 14 dX4_isSort_1 (by decide) (fun c1 => ?_) (fun c1 => ?_)
  · refine sd_iconst C dX4_isSort_14 (by decide) (fun k14 ek14 => ?_)
    exact hret _ _ _ _ dX4_isSort_15 (by omega) (⟨rfl, by omega⟩)
  · refine sd_iload_n C dX4_isSort_4 0 rfl rfl ?_
    refine sd_bipush C dX4_isSort_5 (by decide) (fun k5 ek5 => ?_)
    refine sd_icmp_ge C 14 dX4_isSort_7 (by decide) (fun c7 => ?_) (fun c7 => ?_)
    · refine sd_iconst C dX4_isSort_14 (by decide) (fun k14 ek14 => ?_)
      exact hret _ _ _ _ dX4_isSort_15 (by omega) (⟨rfl, by omega⟩)
    · refine sd_iconst C dX4_isSort_10 (by decide) (fun k10 ek10 => ?_)
      refine sd_goto C 15 dX4_isSort_11 (by decide) ?_
      exact hret _ _ _ _ dX4_isSort_15 (by omega) (⟨rfl, by omega⟩)

set_option maxRecDepth 20000 in
set_option maxHeartbeats 4000000 in
theorem c_X4_isWeek (l : Launch) (D : va_G) (ad : Nat → Nat) (ca : Nat → ClassId) (T : Nat → Nat) (σ : sd_Mem) (x : Int32) : sd_Cz l yX4_isWeek cX4_isWeek 1 0 D ad ca T σ [.int x] (fun r σ' => σ' = σ ∧ ((r.toInt = 1 ∧ 0 ≤ x.toInt ∧ x.toInt < 20) ∨ (r.toInt = 0 ∧ (x.toInt < 0 ∨ 20 ≤ x.toInt)))) := by
  refine sd_ent_z (own := RX4) (by decide) rfl (Nat.le_of_ble_eq_true rfl) (fun X C hret => ?_)
  show sd_Wd X 1 D ad ca σ [(0, .int x)] 0 []
  refine sd_iload_n C dX4_isWeek_0 0 rfl rfl ?_
  refine sd_if_lt C 14 dX4_isWeek_1 (by decide) (fun c1 => ?_) (fun c1 => ?_)
  · refine sd_iconst C dX4_isWeek_14 (by decide) (fun k14 ek14 => ?_)
    exact hret _ _ _ _ dX4_isWeek_15 (by omega) (⟨rfl, by omega⟩)
  · refine sd_iload_n C dX4_isWeek_4 0 rfl rfl ?_
    refine sd_bipush C dX4_isWeek_5 (by decide) (fun k5 ek5 => ?_)
    refine sd_icmp_ge C 14 dX4_isWeek_7 (by decide) (fun c7 => ?_) (fun c7 => ?_)
    · refine sd_iconst C dX4_isWeek_14 (by decide) (fun k14 ek14 => ?_)
      exact hret _ _ _ _ dX4_isWeek_15 (by omega) (⟨rfl, by omega⟩)
    · refine sd_iconst C dX4_isWeek_10 (by decide) (fun k10 ek10 => ?_)
      refine sd_goto C 15 dX4_isWeek_11 (by decide) ?_
      exact hret _ _ _ _ dX4_isWeek_15 (by omega) (⟨rfl, by omega⟩)

set_option maxRecDepth 20000 in
set_option maxHeartbeats 4000000 in
theorem c_X4_bit (l : Launch) (D : va_G) (ad : Nat → Nat) (ca : Nat → ClassId) (T : Nat → Nat) (σ : sd_Mem) (x : Int32) : sd_Ci l yX4_bit cX4_bit 1 0 D ad ca T σ [.int x] (fun r σ' => σ' = σ ∧ ((r.toInt = 1 ∧ x.toInt ≠ 0) ∨ (r.toInt = 0 ∧ x.toInt = 0))) := by
  refine sd_ent_i (own := RX4) (by decide) rfl (Nat.le_of_ble_eq_true rfl) (fun X C hret => ?_)
  show sd_Wd X 1 D ad ca σ [(0, .int x)] 0 []
  refine sd_iload_n C dX4_bit_0 0 rfl rfl ?_
  refine sd_if_eq C 8 dX4_bit_1 (by decide) (fun c1 => ?_) (fun c1 => ?_)
  · refine sd_iconst C dX4_bit_8 (by decide) (fun k8 ek8 => ?_)
    exact hret _ _ _ _ dX4_bit_9 (⟨rfl, by omega⟩)
  · refine sd_iconst C dX4_bit_4 (by decide) (fun k4 ek4 => ?_)
    refine sd_goto C 9 dX4_bit_5 (by decide) ?_
    exact hret _ _ _ _ dX4_bit_9 (⟨rfl, by omega⟩)

set_option maxRecDepth 20000 in
set_option maxHeartbeats 4000000 in
theorem c_X4_isFunnel (l : Launch) (D : va_G) (ad : Nat → Nat) (ca : Nat → ClassId) (T : Nat → Nat) (σ : sd_Mem) (x : Int32) : sd_Cz l yX4_isFunnel cX4_isFunnel 2 0 D ad ca T σ [.ref (ad 0), .int x] (fun r σ' => σ' = σ ∧ ((r.toInt = 1 ∧ 0 ≤ x.toInt ∧ x.toInt < (σ 0 7).toInt) ∨ (r.toInt = 0 ∧ (x.toInt < 0 ∨ (σ 0 7).toInt ≤ x.toInt)))) := by
  refine sd_ent_z (own := RX4) (by decide) rfl (Nat.le_of_ble_eq_true rfl) (fun X C hret => ?_)
  show sd_Wd X 2 D ad ca σ [(0, .ref (ad 0)), (1, .int x)] 0 []
  refine sd_iload_n C dX4_isFunnel_0 1 rfl rfl ?_
  refine sd_if_lt C 16 dX4_isFunnel_1 (by decide) (fun c1 => ?_) (fun c1 => ?_)
  · refine sd_iconst C dX4_isFunnel_16 (by decide) (fun k16 ek16 => ?_)
    exact hret _ _ _ _ dX4_isFunnel_17 (by omega) (⟨rfl, by omega⟩)
  · refine sd_iload_n C dX4_isFunnel_4 1 rfl rfl ?_
    refine sd_aload_n C dX4_isFunnel_5 0 rfl rfl ?_
    refine sd_get C (by decide) rfl rfl 7 (by decide) rfl wf_X4_45 dX4_isFunnel_6 ?_
    refine sd_icmp_ge C 16 dX4_isFunnel_9 (by decide) (fun c9 => ?_) (fun c9 => ?_)
    · refine sd_iconst C dX4_isFunnel_16 (by decide) (fun k16 ek16 => ?_)
      exact hret _ _ _ _ dX4_isFunnel_17 (by omega) (⟨rfl, by omega⟩)
    · refine sd_iconst C dX4_isFunnel_12 (by decide) (fun k12 ek12 => ?_)
      refine sd_goto C 17 dX4_isFunnel_13 (by decide) ?_
      exact hret _ _ _ _ dX4_isFunnel_17 (by omega) (⟨rfl, by omega⟩)

set_option maxRecDepth 20000 in
set_option maxHeartbeats 4000000 in
theorem c_X4_isJoined (l : Launch) (D : va_G) (ad : Nat → Nat) (ca : Nat → ClassId) (T : Nat → Nat) (σ : sd_Mem) (x : Int32) (h0 : 0 ≤ x.toInt) (h1 : x.toInt < 24) : sd_Cz l yX4_isJoined cX4_isJoined 2 0 D ad ca T σ [.ref (ad 0), .int x] (fun r σ' => σ' = σ ∧ ((r.toInt = 1 ∧ (σ 7 x.toInt.toNat).toInt ≠ x.toInt) ∨ (r.toInt = 0 ∧ (σ 7 x.toInt.toNat).toInt = x.toInt))) := by
  refine sd_ent_z (own := RX4) (by decide) rfl (Nat.le_of_ble_eq_true rfl) (fun X C hret => ?_)
  show sd_Wd X 2 D ad ca σ [(0, .ref (ad 0)), (1, .int x)] 0 []
  refine sd_aload_n C dX4_isJoined_0 0 rfl rfl ?_
  refine sd_get C (by decide) rfl rfl 1 (by decide) rfl wf_X4_16 dX4_isJoined_1 ?_
  refine sd_iload_n C dX4_isJoined_4 1 rfl rfl ?_
  refine sd_iald C (by decide) rfl (x.toInt.toNat) ⟨by omega, by omega⟩ dX4_isJoined_5 ?_
  refine sd_iload_n C dX4_isJoined_6 1 rfl rfl ?_
  refine sd_icmp_eq C 14 dX4_isJoined_7 (by decide) (fun c7 => ?_) (fun c7 => ?_)
  · refine sd_iconst C dX4_isJoined_14 (by decide) (fun k14 ek14 => ?_)
    exact hret _ _ _ _ dX4_isJoined_15 (by omega) (⟨rfl, by omega⟩)
  · refine sd_iconst C dX4_isJoined_10 (by decide) (fun k10 ek10 => ?_)
    refine sd_goto C 15 dX4_isJoined_11 (by decide) ?_
    exact hret _ _ _ _ dX4_isJoined_15 (by omega) (⟨rfl, by omega⟩)

set_option maxRecDepth 20000 in
set_option maxHeartbeats 4000000 in
theorem c_X0_has (l : Launch) (D : va_G) (ad : Nat → Nat) (ca : Nat → ClassId) (T : Nat → Nat) (σ : sd_Mem) (x : Int32) : sd_Cz l yX0_has cX0_has 2 0 D ad ca T σ [.ref (ad 1), .int x] (fun r σ' => σ' = σ ∧ ((r.toInt = 1 ∧ 0 ≤ x.toInt ∧ x.toInt < (σ 1 5).toInt) ∨ (r.toInt = 0 ∧ (x.toInt < 0 ∨ (σ 1 5).toInt ≤ x.toInt)))) := by
  refine sd_ent_z (own := RX0) (by decide) rfl (Nat.le_of_ble_eq_true rfl) (fun X C hret => ?_)
  show sd_Wd X 2 D ad ca σ [(0, .ref (ad 1)), (1, .int x)] 0 []
  refine sd_iload_n C dX0_has_0 1 rfl rfl ?_
  refine sd_if_lt C 16 dX0_has_1 (by decide) (fun c1 => ?_) (fun c1 => ?_)
  · refine sd_iconst C dX0_has_16 (by decide) (fun k16 ek16 => ?_)
    exact hret _ _ _ _ dX0_has_17 (by omega) (⟨rfl, by omega⟩)
  · refine sd_iload_n C dX0_has_4 1 rfl rfl ?_
    refine sd_aload_n C dX0_has_5 0 rfl rfl ?_
    refine sd_get C (by decide) rfl rfl 5 (by decide) rfl wf_X0_28 dX0_has_6 ?_
    refine sd_icmp_ge C 16 dX0_has_9 (by decide) (fun c9 => ?_) (fun c9 => ?_)
    · refine sd_iconst C dX0_has_16 (by decide) (fun k16 ek16 => ?_)
      exact hret _ _ _ _ dX0_has_17 (by omega) (⟨rfl, by omega⟩)
    · refine sd_iconst C dX0_has_12 (by decide) (fun k12 ek12 => ?_)
      refine sd_goto C 17 dX0_has_13 (by decide) ?_
      exact hret _ _ _ _ dX0_has_17 (by omega) (⟨rfl, by omega⟩)

set_option maxRecDepth 20000 in
set_option maxHeartbeats 4000000 in
theorem c_X2_has (l : Launch) (D : va_G) (ad : Nat → Nat) (ca : Nat → ClassId) (T : Nat → Nat) (σ : sd_Mem) (q : Nat) (hq : q < 24) (x : Int32) : sd_Cz l yX2_has cX2_has 2 0 D ad ca T σ [.ref (ad (16 + q)), .int x] (fun r σ' => σ' = σ ∧ ((r.toInt = 1 ∧ 0 ≤ x.toInt ∧ x.toInt < (σ (16 + q) 2).toInt) ∨ (r.toInt = 0 ∧ (x.toInt < 0 ∨ (σ (16 + q) 2).toInt ≤ x.toInt)))) := by
  refine sd_ent_z (own := RX2) (by decide) rfl (Nat.le_of_ble_eq_true rfl) (fun X C hret => ?_)
  show sd_Wd X 2 D ad ca σ [(0, .ref (ad (16 + q))), (1, .int x)] 0 []
  refine sd_iload_n C dX2_has_0 1 rfl rfl ?_
  refine sd_if_lt C 16 dX2_has_1 (by decide) (fun c1 => ?_) (fun c1 => ?_)
  · refine sd_iconst C dX2_has_16 (by decide) (fun k16 ek16 => ?_)
    exact hret _ _ _ _ dX2_has_17 (by omega) (⟨rfl, by omega⟩)
  · refine sd_iload_n C dX2_has_4 1 rfl rfl ?_
    refine sd_aload_n C dX2_has_5 0 rfl rfl ?_
    refine sd_get C (by omega) (sd_cell_row _ (by omega)) rfl 2 (by decide) rfl wf_X2_19 dX2_has_6 ?_
    refine sd_icmp_ge C 16 dX2_has_9 (by decide) (fun c9 => ?_) (fun c9 => ?_)
    · refine sd_iconst C dX2_has_16 (by decide) (fun k16 ek16 => ?_)
      exact hret _ _ _ _ dX2_has_17 (by omega) (⟨rfl, by omega⟩)
    · refine sd_iconst C dX2_has_12 (by decide) (fun k12 ek12 => ?_)
      refine sd_goto C 17 dX2_has_13 (by decide) ?_
      exact hret _ _ _ _ dX2_has_17 (by omega) (⟨rfl, by omega⟩)

set_option maxRecDepth 20000 in
set_option maxHeartbeats 4000000 in
theorem c_X2_timeAt (l : Launch) (D : va_G) (ad : Nat → Nat) (ca : Nat → ClassId) (T : Nat → Nat) (σ : sd_Mem) (β : sp_B) (q j : Nat) (l9 : List Nat) (hW : sd_RW σ β q l9) (hq : q < 24) (x : Int32) (hx : x.toInt = (j : Int)) (hj : j < l9.length) : sd_Ci l yX2_timeAt cX2_timeAt 2 1 D ad ca T σ [.ref (ad (16 + q)), .int x] (fun r σ' => σ' = σ ∧ (r.toInt = β 1 (l9.getD j 0))) := by
  refine sd_ent_i (own := RX2) (by decide) rfl (Nat.le_of_ble_eq_true rfl) (fun X C hret => ?_)
  show sd_Wd X 2 D ad ca σ [(0, .ref (ad (16 + q))), (1, .int x)] 0 []
  have hz := hW.2.2.1.1
  have hl9 := hW.2.2.2.1
  obtain ⟨a1, a2, a3, a4, a5, a6, a7, a8, a9, a10⟩ := hW.at hj
  refine sd_aload_n C dX2_timeAt_0 0 rfl rfl ?_
  refine sd_iload_n C dX2_timeAt_1 1 rfl rfl ?_
  refine sd_pVz C (c_X2_has l D ad ca T σ q hq x) mv_X2_has wm_X2_23 (by omega) (sd_cell_row _ (by omega)) rfl (by decide) rfl rfl (Nat.le_of_ble_eq_true rfl) dX2_timeAt_2 (fun r2 h2 => ?_)
  try dsimp only at h2
  refine sd_if_eq C 25 dX2_timeAt_5 (by decide) (fun c5 => ?_) (fun c5 => ?_)
  · exact absurd c5 (by omega)
  · refine sd_aload_n C dX2_timeAt_8 0 rfl rfl ?_
    refine sd_get C (by omega) (sd_cell_row _ (by omega)) rfl 0 (by decide) rfl wf_X2_15 dX2_timeAt_9 ?_
    refine sd_get C (by decide) rfl rfl 0 (by decide) rfl wf_X2_27 dX2_timeAt_12 ?_
    refine sd_aload_n C dX2_timeAt_15 0 rfl rfl ?_
    refine sd_get C (by omega) (sd_cell_row _ (by omega)) rfl 1 (by decide) rfl wf_X2_9 dX2_timeAt_16 ?_
    refine sd_iload_n C dX2_timeAt_19 1 rfl rfl ?_
    refine sd_iald C (by omega) (sd_cell_rowA _ (by omega)) (j) ⟨by omega, by omega⟩ dX2_timeAt_20 ?_
    refine sd_iald C (by decide) rfl ((σ (40 + q) (j)).toInt.toNat) ⟨by omega, by omega⟩ dX2_timeAt_21 ?_
    refine sd_goto C 26 dX2_timeAt_22 (by decide) ?_
    exact hret _ _ _ _ dX2_timeAt_26 (⟨rfl, by rw [a1]; omega⟩)

set_option maxRecDepth 20000 in
set_option maxHeartbeats 4000000 in
theorem c_X2_sortAt (l : Launch) (D : va_G) (ad : Nat → Nat) (ca : Nat → ClassId) (T : Nat → Nat) (σ : sd_Mem) (β : sp_B) (q j : Nat) (l9 : List Nat) (hW : sd_RW σ β q l9) (hq : q < 24) (x : Int32) (hx : x.toInt = (j : Int)) (hj : j < l9.length) : sd_Ci l yX2_sortAt cX2_sortAt 2 1 D ad ca T σ [.ref (ad (16 + q)), .int x] (fun r σ' => σ' = σ ∧ (r.toInt = β 3 (l9.getD j 0))) := by
  refine sd_ent_i (own := RX2) (by decide) rfl (Nat.le_of_ble_eq_true rfl) (fun X C hret => ?_)
  show sd_Wd X 2 D ad ca σ [(0, .ref (ad (16 + q))), (1, .int x)] 0 []
  have hz := hW.2.2.1.1
  have hl9 := hW.2.2.2.1
  obtain ⟨a1, a2, a3, a4, a5, a6, a7, a8, a9, a10⟩ := hW.at hj
  refine sd_aload_n C dX2_sortAt_0 0 rfl rfl ?_
  refine sd_iload_n C dX2_sortAt_1 1 rfl rfl ?_
  refine sd_pVz C (c_X2_has l D ad ca T σ q hq x) mv_X2_has wm_X2_23 (by omega) (sd_cell_row _ (by omega)) rfl (by decide) rfl rfl (Nat.le_of_ble_eq_true rfl) dX2_sortAt_2 (fun r2 h2 => ?_)
  try dsimp only at h2
  refine sd_if_eq C 25 dX2_sortAt_5 (by decide) (fun c5 => ?_) (fun c5 => ?_)
  · exact absurd c5 (by omega)
  · refine sd_aload_n C dX2_sortAt_8 0 rfl rfl ?_
    refine sd_get C (by omega) (sd_cell_row _ (by omega)) rfl 0 (by decide) rfl wf_X2_15 dX2_sortAt_9 ?_
    refine sd_get C (by decide) rfl rfl 2 (by decide) rfl wf_X2_32 dX2_sortAt_12 ?_
    refine sd_aload_n C dX2_sortAt_15 0 rfl rfl ?_
    refine sd_get C (by omega) (sd_cell_row _ (by omega)) rfl 1 (by decide) rfl wf_X2_9 dX2_sortAt_16 ?_
    refine sd_iload_n C dX2_sortAt_19 1 rfl rfl ?_
    refine sd_iald C (by omega) (sd_cell_rowA _ (by omega)) (j) ⟨by omega, by omega⟩ dX2_sortAt_20 ?_
    refine sd_iald C (by decide) rfl ((σ (40 + q) (j)).toInt.toNat) ⟨by omega, by omega⟩ dX2_sortAt_21 ?_
    refine sd_goto C 26 dX2_sortAt_22 (by decide) ?_
    exact hret _ _ _ _ dX2_sortAt_26 (⟨rfl, by rw [a1]; omega⟩)

set_option maxRecDepth 20000 in
set_option maxHeartbeats 4000000 in
theorem c_X2_isQuick (l : Launch) (D : va_G) (ad : Nat → Nat) (ca : Nat → ClassId) (T : Nat → Nat) (σ : sd_Mem) (β : sp_B) (q : Nat) (l9 : List Nat) (hW : sd_RW σ β q l9) (hq : q < 24) (x y : Int32) (hx : x.toInt = β 6 3) (hy : y.toInt = β 6 4) : sd_Cz l yX2_isQuick cX2_isQuick 4 2 D ad ca T σ [.ref (ad (16 + q)), .int x, .int y] (fun r σ' => σ' = σ ∧ ((r.toInt = 1 ∧ sp_quick β l9 = true) ∨ (r.toInt = 0 ∧ sp_quick β l9 = false))) := by
  refine sd_ent_z (own := RX2) (by decide) rfl (Nat.le_of_ble_eq_true rfl) (fun X C hret => ?_)
  show sd_Wd X 4 D ad ca σ [(0, .ref (ad (16 + q))), (1, .int x), (2, .int y)] 0 []
  have hz := hW.2.2.1.1
  have hl9 := hW.2.2.2.1
  have hru := hW.2.1.2.2.2.1
  obtain ⟨rt, hrt⟩ : ∃ rt : Nat, β 6 3 = (rt : Int) := ⟨(β 6 3).toNat, by omega⟩
  refine sd_iload_n C dX2_isQuick_0 1 rfl rfl ?_
  refine sd_if_gt C 6 dX2_isQuick_1 (by decide) (fun c1 => ?_) (fun c1 => ?_)
  · refine sd_iload_n C dX2_isQuick_6 1 rfl rfl ?_
    refine sd_istore_n (lv' := [(3, .int x), (0, .ref (ad (16 + q))), (1, .int x), (2, .int y)]) C dX2_isQuick_7 rfl (by decide) rfl ?_
    have key8 : ∀ (fu8 : Nat) (x3 : Int32) (j : Nat), (x3.toInt = (j : Int)) → (rt ≤ j ∧ (j ≤ l9.length ∨ j = rt)) → (∀ i, i + rt < j → ¬ (β 1 (l9.getD (i + rt) 0) - β 1 (l9.getD i 0) < β 6 4)) → (l9.length - j < fu8) → sd_Wd X 4 D ad ca σ [(3, .int x3), (0, .ref (ad (16 + q))), (1, .int x), (2, .int y)] 8 [] := by
      intro fu8
      induction fu8 with
      | zero => intro x3 j h3 hj hno hm8; exact absurd hm8 (Nat.not_lt_zero _)
      | succ fu8 ih8 =>
        intro x3 j h3 hj hno hm8
        refine sd_iload_n C dX2_isQuick_8 0 rfl rfl ?_
        refine sd_aload_n C dX2_isQuick_9 1 rfl rfl ?_
        refine sd_get C (by omega) (sd_cell_row _ (by omega)) rfl 2 (by decide) rfl wf_X2_19 dX2_isQuick_10 ?_
        refine sd_icmp_ge C 41 dX2_isQuick_13 (by decide) (fun c13 => ?_) (fun c13 => ?_)
        · refine sd_iconst C dX2_isQuick_41 (by decide) (fun k41 ek41 => ?_)
          exact hret _ _ _ _ dX2_isQuick_42 (by omega) (⟨rfl, Or.inr ⟨by omega, sp_quick_false hrt (fun i h => hno i (by omega))⟩⟩)
        · refine sd_aload_n C dX2_isQuick_16 1 rfl rfl ?_
          refine sd_iload_n C dX2_isQuick_17 0 rfl rfl ?_
          refine sd_pVi C (c_X2_timeAt l D ad ca T σ β q (j) l9 hW hq x3 (by omega) (by omega)) mv_X2_timeAt wm_X2_53 (by omega) (sd_cell_row _ (by omega)) rfl (by decide) rfl rfl (Nat.le_of_ble_eq_true rfl) dX2_isQuick_18 (fun r18 h18 => ?_)
          try dsimp only at h18
          refine sd_aload_n C dX2_isQuick_21 1 rfl rfl ?_
          refine sd_iload_n C dX2_isQuick_22 0 rfl rfl ?_
          refine sd_iload_n C dX2_isQuick_23 2 rfl rfl ?_
          refine sd_isub C dX2_isQuick_24 (by omega) (fun z24 ez24 => ?_)
          refine sd_pVi C (c_X2_timeAt l D ad ca T σ β q (j - rt) l9 hW hq z24 (by omega) (by omega)) mv_X2_timeAt wm_X2_53 (by omega) (sd_cell_row _ (by omega)) rfl (by decide) rfl rfl (Nat.le_of_ble_eq_true rfl) dX2_isQuick_25 (fun r25 h25 => ?_)
          try dsimp only at h25
          have b1 := hW.at (j := j) (by omega)
          have b2 := hW.at (j := j - rt) (by omega)
          refine sd_isub C dX2_isQuick_28 (by omega) (fun z28 ez28 => ?_)
          refine sd_iload_n C dX2_isQuick_29 3 rfl rfl ?_
          refine sd_icmp_ge C 35 dX2_isQuick_30 (by decide) (fun c30 => ?_) (fun c30 => ?_)
          · refine sd_iinc C dX2_isQuick_35 0 rfl (by decide) (by decide) (by omega) (fun zz => [(3, .int zz), (0, .ref (ad (16 + q))), (1, .int x), (2, .int y)]) (fun _ => rfl) (fun u35 eu35 => ?_)
            refine sd_goto C 8 dX2_isQuick_38 (by decide) ?_
            exact ih8 u35 (j + 1) (by omega) (by omega) (fun i h => by
                  by_cases e : i + rt = j
                  · have e2 : i = j - rt := by omega
                    subst e2; rw [e]; omega
                  · exact hno i (by omega)) (by omega)
          · refine sd_iconst C dX2_isQuick_33 (by decide) (fun k33 ek33 => ?_)
            exact hret _ _ _ _ dX2_isQuick_34 (by omega) (⟨rfl, Or.inl ⟨by omega, sp_quick_true (i := j - rt) hrt (by omega) (by omega) (by rw [show j - rt + rt = j by omega]; omega)⟩⟩)
    exact key8 _ x rt (by omega) (by omega) (fun i h => by omega) (Nat.lt_succ_self _)
  · refine sd_iconst C dX2_isQuick_4 (by decide) (fun k4 ek4 => ?_)
    exact hret _ _ _ _ dX2_isQuick_5 (by omega) (⟨rfl, Or.inr ⟨by omega, sp_quick_zero (by omega)⟩⟩)

set_option maxRecDepth 20000 in
set_option maxHeartbeats 4000000 in
theorem c_X2_birth (l : Launch) (D : va_G) (ad : Nat → Nat) (ca : Nat → ClassId) (T : Nat → Nat) (σ : sd_Mem) (β : sp_B) (q : Nat) (l9 : List Nat) (hW : sd_RW σ β q l9) (hq : q < 24) (x : Int32) (hx : x.toInt = β 6 5) : sd_Ci l yX2_birth cX2_birth 3 2 D ad ca T σ [.ref (ad (16 + q)), .int x] (fun r σ' => σ' = σ ∧ (r.toInt = sp_birth β l9)) := by
  refine sd_ent_i (own := RX2) (by decide) rfl (Nat.le_of_ble_eq_true rfl) (fun X C hret => ?_)
  show sd_Wd X 3 D ad ca σ [(0, .ref (ad (16 + q))), (1, .int x)] 0 []
  have hz := hW.2.2.1.1
  have hl9 := hW.2.2.2.1
  refine sd_iconst C dX2_birth_0 (by decide) (fun k0 ek0 => ?_)
  refine sd_istore_n (lv' := [(2, .int k0), (0, .ref (ad (16 + q))), (1, .int x)]) C dX2_birth_1 rfl (by decide) rfl ?_
  have key2 : ∀ (fu2 : Nat) (x2 : Int32) (j : Nat), (x2.toInt = (j : Int)) → (j ≤ l9.length) → (∀ i, i < j → β 3 (l9.getD i 0) ≠ β 6 5) → (l9.length - j < fu2) → sd_Wd X 3 D ad ca σ [(2, .int x2), (0, .ref (ad (16 + q))), (1, .int x)] 2 [] := by
    intro fu2
    induction fu2 with
    | zero => intro x2 j h2 hj hno hm2; exact absurd hm2 (Nat.not_lt_zero _)
    | succ fu2 ih2 =>
      intro x2 j h2 hj hno hm2
      refine sd_iload_n C dX2_birth_2 0 rfl rfl ?_
      refine sd_aload_n C dX2_birth_3 1 rfl rfl ?_
      refine sd_get C (by omega) (sd_cell_row _ (by omega)) rfl 2 (by decide) rfl wf_X2_19 dX2_birth_4 ?_
      refine sd_icmp_ge C 35 dX2_birth_7 (by decide) (fun c7 => ?_) (fun c7 => ?_)
      · refine sd_iconst C dX2_birth_35 (by decide) (fun k35 ek35 => ?_)
        exact hret _ _ _ _ dX2_birth_36 (⟨rfl, by rw [sp_birth_none (fun i h => hno i (by omega))]; omega⟩)
      · refine sd_aload_n C dX2_birth_10 1 rfl rfl ?_
        refine sd_iload_n C dX2_birth_11 0 rfl rfl ?_
        refine sd_pVi C (c_X2_sortAt l D ad ca T σ β q (j) l9 hW hq x2 (by omega) (by omega)) mv_X2_sortAt wm_X2_57 (by omega) (sd_cell_row _ (by omega)) rfl (by decide) rfl rfl (Nat.le_of_ble_eq_true rfl) dX2_birth_12 (fun r12 h12 => ?_)
        try dsimp only at h12
        refine sd_iload_n C dX2_birth_15 2 rfl rfl ?_
        refine sd_icmp_ne C 29 dX2_birth_16 (by decide) (fun c16 => ?_) (fun c16 => ?_)
        · refine sd_iinc C dX2_birth_29 0 rfl (by decide) (by decide) (by omega) (fun zz => [(2, .int zz), (0, .ref (ad (16 + q))), (1, .int x)]) (fun _ => rfl) (fun u29 eu29 => ?_)
          refine sd_goto C 2 dX2_birth_32 (by decide) ?_
          exact ih2 u29 (j + 1) (by omega) (by omega) (fun i h => by
                by_cases e : i = j
                · subst e; omega
                · exact hno i (by omega)) (by omega)
        · refine sd_aload_n C dX2_birth_19 1 rfl rfl ?_
          refine sd_iload_n C dX2_birth_20 0 rfl rfl ?_
          refine sd_pVi C (c_X2_timeAt l D ad ca T σ β q (j) l9 hW hq x2 (by omega) (by omega)) mv_X2_timeAt wm_X2_53 (by omega) (sd_cell_row _ (by omega)) rfl (by decide) rfl rfl (Nat.le_of_ble_eq_true rfl) dX2_birth_21 (fun r21 h21 => ?_)
          try dsimp only at h21
          refine sd_sipush C dX2_birth_24 (by decide) (fun k24 ek24 => ?_)
          have b1 := hW.at (j := j) (by omega)
          refine sd_idiv C 10080 (by decide) dX2_birth_27 ek24 (by omega) (fun z27 ez27 => ?_)
          exact hret _ _ _ _ dX2_birth_28 (⟨rfl, by rw [sp_birth_some (i := j) (by omega) (by omega) hno]; omega⟩)
  exact key2 _ k0 0 (by omega) (by omega) (fun i h => by omega) (Nat.lt_succ_self _)

set_option maxRecDepth 20000 in
set_option maxHeartbeats 4000000 in
theorem c_X2_isIn (l : Launch) (D : va_G) (ad : Nat → Nat) (ca : Nat → ClassId) (T : Nat → Nat) (σ : sd_Mem) (β : sp_B) (q : Nat) (l9 : List Nat) (hW : sd_RW σ β q l9) (hq : q < 24) (x : Int32) : sd_Cz l yX2_isIn cX2_isIn 3 2 D ad ca T σ [.ref (ad (16 + q)), .int x] (fun r σ' => σ' = σ ∧ ((r.toInt = 1 ∧ sp_came β l9 x.toInt = true) ∨ (r.toInt = 0 ∧ sp_came β l9 x.toInt = false))) := by
  refine sd_ent_z (own := RX2) (by decide) rfl (Nat.le_of_ble_eq_true rfl) (fun X C hret => ?_)
  show sd_Wd X 3 D ad ca σ [(0, .ref (ad (16 + q))), (1, .int x)] 0 []
  have hz := hW.2.2.1.1
  have hl9 := hW.2.2.2.1
  refine sd_iconst C dX2_isIn_0 (by decide) (fun k0 ek0 => ?_)
  refine sd_istore_n (lv' := [(2, .int k0), (0, .ref (ad (16 + q))), (1, .int x)]) C dX2_isIn_1 rfl (by decide) rfl ?_
  have key2 : ∀ (fu2 : Nat) (x2 : Int32) (j : Nat), (x2.toInt = (j : Int)) → (j ≤ l9.length) → (∀ i, i < j → β 1 (l9.getD i 0) / 10080 ≠ x.toInt) → (l9.length - j < fu2) → sd_Wd X 3 D ad ca σ [(2, .int x2), (0, .ref (ad (16 + q))), (1, .int x)] 2 [] := by
    intro fu2
    induction fu2 with
    | zero => intro x2 j h2 hj hno hm2; exact absurd hm2 (Nat.not_lt_zero _)
    | succ fu2 ih2 =>
      intro x2 j h2 hj hno hm2
      refine sd_iload_n C dX2_isIn_2 0 rfl rfl ?_
      refine sd_aload_n C dX2_isIn_3 1 rfl rfl ?_
      refine sd_get C (by omega) (sd_cell_row _ (by omega)) rfl 2 (by decide) rfl wf_X2_19 dX2_isIn_4 ?_
      refine sd_icmp_ge C 31 dX2_isIn_7 (by decide) (fun c7 => ?_) (fun c7 => ?_)
      · refine sd_iconst C dX2_isIn_31 (by decide) (fun k31 ek31 => ?_)
        exact hret _ _ _ _ dX2_isIn_32 (by omega) (⟨rfl, Or.inr ⟨by omega, sp_came_false (fun i h => hno i (by omega))⟩⟩)
      · refine sd_aload_n C dX2_isIn_10 1 rfl rfl ?_
        refine sd_iload_n C dX2_isIn_11 0 rfl rfl ?_
        refine sd_pVi C (c_X2_timeAt l D ad ca T σ β q (j) l9 hW hq x2 (by omega) (by omega)) mv_X2_timeAt wm_X2_53 (by omega) (sd_cell_row _ (by omega)) rfl (by decide) rfl rfl (Nat.le_of_ble_eq_true rfl) dX2_isIn_12 (fun r12 h12 => ?_)
        try dsimp only at h12
        refine sd_sipush C dX2_isIn_15 (by decide) (fun k15 ek15 => ?_)
        have b1 := hW.at (j := j) (by omega)
        refine sd_idiv C 10080 (by decide) dX2_isIn_18 ek15 (by omega) (fun z18 ez18 => ?_)
        refine sd_iload_n C dX2_isIn_19 2 rfl rfl ?_
        refine sd_icmp_ne C 25 dX2_isIn_20 (by decide) (fun c20 => ?_) (fun c20 => ?_)
        · refine sd_iinc C dX2_isIn_25 0 rfl (by decide) (by decide) (by omega) (fun zz => [(2, .int zz), (0, .ref (ad (16 + q))), (1, .int x)]) (fun _ => rfl) (fun u25 eu25 => ?_)
          refine sd_goto C 2 dX2_isIn_28 (by decide) ?_
          exact ih2 u25 (j + 1) (by omega) (by omega) (fun i h => by
                by_cases e : i = j
                · subst e; omega
                · exact hno i (by omega)) (by omega)
        · refine sd_iconst C dX2_isIn_23 (by decide) (fun k23 ek23 => ?_)
          exact hret _ _ _ _ dX2_isIn_24 (by omega) (⟨rfl, Or.inl ⟨by omega, sp_came_true (i := j) (by omega) (by omega)⟩⟩)
  exact key2 _ k0 0 (by omega) (by omega) (fun i h => by omega) (Nat.lt_succ_self _)

set_option maxRecDepth 20000 in
set_option maxHeartbeats 4000000 in
theorem c_X2_dropIfQuick (l : Launch) (D : va_G) (ad : Nat → Nat) (ca : Nat → ClassId) (T : Nat → Nat) (σ : sd_Mem) (β : sp_B) (q : Nat) (l9 : List Nat) (hW : sd_RW σ β q l9) (hq : q < 24) (x y : Int32) (hx : x.toInt = β 6 3) (hy : y.toInt = β 6 4) : sd_Cv l yX2_dropIfQuick cX2_dropIfQuick 3 3 D ad ca T σ [.ref (ad (16 + q)), .int x, .int y] (fun σ' => (∀ i k, i ≠ 16 + q → σ' i k = σ i k) ∧ (σ' (16 + q) 2).toInt = ((if sp_quick β l9 then ([] : List Nat) else l9).length : Int) ∧ σ' (16 + q) 3 = σ (16 + q) 3 ∧ (σ' (16 + q) 4).toInt = (if sp_quick β l9 then 1 else 0) ∧ σ' (16 + q) 5 = σ (16 + q) 5) := by
  refine sd_ent_v (own := RX2) (by decide) rfl (Nat.le_of_ble_eq_true rfl) (fun X C hret => ?_)
  show sd_Wd X 3 D ad ca σ [(0, .ref (ad (16 + q))), (1, .int x), (2, .int y)] 0 []
  have hz := hW.2.2.1.1
  refine sd_aload_n C dX2_dropIfQuick_0 0 rfl rfl ?_
  refine sd_aload_n C dX2_dropIfQuick_1 0 rfl rfl ?_
  refine sd_iload_n C dX2_dropIfQuick_2 1 rfl rfl ?_
  refine sd_iload_n C dX2_dropIfQuick_3 2 rfl rfl ?_
  refine sd_pVz C (c_X2_isQuick l D ad ca T σ β q l9 hW hq x y hx hy) mv_X2_isQuick wm_X2_49 (by omega) (sd_cell_row _ (by omega)) rfl (by decide) rfl rfl (Nat.le_of_ble_eq_true rfl) dX2_dropIfQuick_4 (fun r4 h4 => ?_)
  try dsimp only at h4
  refine sd_put C (ty := .boolean) (by omega) (sd_cell_row _ (by omega)) rfl 4 (by decide) rfl (by decide +kernel) (sd_nb (by omega)) (sd_fb (by omega)) (Nat.le_of_ble_eq_true rfl) (fun _ => by rw [sd_cell_row _ (by omega)]; rfl) wf_X2_38 dX2_dropIfQuick_7 (fun s7 es7 => ?_)
  have f1 : s7 (16 + q) 4 = r4 := by rw [es7, sd_st_at]
  refine sd_aload_n C dX2_dropIfQuick_10 0 rfl rfl ?_
  refine sd_get C (by omega) (sd_cell_row _ (by omega)) rfl 4 (by decide) rfl wf_X2_38 dX2_dropIfQuick_11 ?_
  refine sd_if_eq C 22 dX2_dropIfQuick_14 (by decide) (fun c14 => ?_) (fun c14 => ?_)
  · exact hret _ _ _ dX2_dropIfQuick_22 (by
        rw [f1] at c14
        have hqk : sp_quick β l9 = false := by
          rcases h4 with h | h
          · exact absurd h.1 (by omega)
          · exact h.2
        refine ⟨fun i k h => ?_, ?_, ?_, ?_, ?_⟩
        · rw [es7, sd_st_ne h]
        · rw [hqk, es7, sd_st_nk (by decide)]; exact hz
        · rw [es7, sd_st_nk (by decide)]
        · rw [hqk, f1]; exact c14
        · rw [es7, sd_st_nk (by decide)])
  · refine sd_aload_n C dX2_dropIfQuick_17 0 rfl rfl ?_
    refine sd_iconst C dX2_dropIfQuick_18 (by decide) (fun k18 ek18 => ?_)
    refine sd_put C (ty := .int) (by omega) (sd_cell_row _ (by omega)) rfl 2 (by decide) rfl (by decide +kernel) rfl rfl (Nat.le_of_ble_eq_true rfl) (fun _ => by rw [sd_cell_row _ (by omega)]; rfl) wf_X2_19 dX2_dropIfQuick_19 (fun s19 es19 => ?_)
    exact hret _ _ _ dX2_dropIfQuick_22 (by
        rw [f1] at c14
        have hqk : sp_quick β l9 = true := by
          rcases h4 with h | h
          · exact h.2
          · exact absurd h.1 (by omega)
        refine ⟨fun i k h => ?_, ?_, ?_, ?_, ?_⟩
        · rw [es19, sd_st_ne h, es7, sd_st_ne h]
        · rw [hqk, es19, sd_st_at]; exact ek18
        · rw [es19, sd_st_nk (by decide), es7, sd_st_nk (by decide)]
        · rw [hqk, es19, sd_st_nk (by decide), f1]
          rcases h4 with h | h
          · exact h.1
          · exact absurd h.1 (by omega)
        · rw [es19, sd_st_nk (by decide), es7, sd_st_nk (by decide)])

set_option maxRecDepth 20000 in
set_option maxHeartbeats 4000000 in
theorem c_X4_isWho (l : Launch) (D : va_G) (ad : Nat → Nat) (ca : Nat → ClassId) (T : Nat → Nat) (σ : sd_Mem) (x : Int32) : sd_Cz l yX4_isWho cX4_isWho 1 0 D ad ca T σ [.int x] (fun r σ' => σ' = σ ∧ ((r.toInt = 1 ∧ 0 ≤ x.toInt ∧ x.toInt < 24) ∨ (r.toInt = 0 ∧ (x.toInt < 0 ∨ 24 ≤ x.toInt)))) := by
  refine sd_ent_z (own := RX4) (by decide) rfl (Nat.le_of_ble_eq_true rfl) (fun X C hret => ?_)
  show sd_Wd X 1 D ad ca σ [(0, .int x)] 0 []
  refine sd_iload_n C dX4_isWho_0 0 rfl rfl ?_
  refine sd_if_lt C 14 dX4_isWho_1 (by decide) (fun c1 => ?_) (fun c1 => ?_)
  · refine sd_iconst C dX4_isWho_14 (by decide) (fun k14 ek14 => ?_)
    exact hret _ _ _ _ dX4_isWho_15 (by omega) (⟨rfl, by omega⟩)
  · refine sd_iload_n C dX4_isWho_4 0 rfl rfl ?_
    refine sd_bipush C dX4_isWho_5 (by decide) (fun k5 ek5 => ?_)
    refine sd_icmp_ge C 14 dX4_isWho_7 (by decide) (fun c7 => ?_) (fun c7 => ?_)
    · refine sd_iconst C dX4_isWho_14 (by decide) (fun k14 ek14 => ?_)
      exact hret _ _ _ _ dX4_isWho_15 (by omega) (⟨rfl, by omega⟩)
    · refine sd_iconst C dX4_isWho_10 (by decide) (fun k10 ek10 => ?_)
      refine sd_goto C 15 dX4_isWho_11 (by decide) ?_
      exact hret _ _ _ _ dX4_isWho_15 (by omega) (⟨rfl, by omega⟩)

set_option maxRecDepth 20000 in
set_option maxHeartbeats 4000000 in
theorem c_X4_isName (l : Launch) (D : va_G) (ad : Nat → Nat) (ca : Nat → ClassId) (T : Nat → Nat) (σ : sd_Mem) (x : Int32) : sd_Cz l yX4_isName cX4_isName 1 0 D ad ca T σ [.int x] (fun r σ' => σ' = σ ∧ ((r.toInt = 1 ∧ 0 ≤ x.toInt ∧ x.toInt < 12) ∨ (r.toInt = 0 ∧ (x.toInt < 0 ∨ 12 ≤ x.toInt)))) := by
  refine sd_ent_z (own := RX4) (by decide) rfl (Nat.le_of_ble_eq_true rfl) (fun X C hret => ?_)
  show sd_Wd X 1 D ad ca σ [(0, .int x)] 0 []
  refine sd_iload_n C dX4_isName_0 0 rfl rfl ?_
  refine sd_if_lt C 14 dX4_isName_1 (by decide) (fun c1 => ?_) (fun c1 => ?_)
  · refine sd_iconst C dX4_isName_14 (by decide) (fun k14 ek14 => ?_)
    exact hret _ _ _ _ dX4_isName_15 (by omega) (⟨rfl, by omega⟩)
  · refine sd_iload_n C dX4_isName_4 0 rfl rfl ?_
    refine sd_bipush C dX4_isName_5 (by decide) (fun k5 ek5 => ?_)
    refine sd_icmp_ge C 14 dX4_isName_7 (by decide) (fun c7 => ?_) (fun c7 => ?_)
    · refine sd_iconst C dX4_isName_14 (by decide) (fun k14 ek14 => ?_)
      exact hret _ _ _ _ dX4_isName_15 (by omega) (⟨rfl, by omega⟩)
    · refine sd_iconst C dX4_isName_10 (by decide) (fun k10 ek10 => ?_)
      refine sd_goto C 15 dX4_isName_11 (by decide) ?_
      exact hret _ _ _ _ dX4_isName_15 (by omega) (⟨rfl, by omega⟩)

set_option maxRecDepth 20000 in
set_option maxHeartbeats 4000000 in
theorem c_X4_isSort (l : Launch) (D : va_G) (ad : Nat → Nat) (ca : Nat → ClassId) (T : Nat → Nat) (σ : sd_Mem) (x : Int32) : sd_Cz l yX4_isSort cX4_isSort 1 0 D ad ca T σ [.int x] (fun r σ' => σ' = σ ∧ ((r.toInt = 1 ∧ 0 ≤ x.toInt ∧ x.toInt < 8) ∨ (r.toInt = 0 ∧ (x.toInt < 0 ∨ 8 ≤ x.toInt)))) := by
  refine sd_ent_z (own := RX4) (by decide) rfl (Nat.le_of_ble_eq_true rfl) (fun X C hret => ?_)
  show sd_Wd X 1 D ad ca σ [(0, .int x)] 0 []
  refine sd_iload_n C dX4_isSort_0 0 rfl rfl ?_
  refine sd_if_lt C 14 dX4_isSort_1 (by decide) (fun c1 => ?_) (fun c1 => ?_)
  · refine sd_iconst C dX4_isSort_14 (by decide) (fun k14 ek14 => ?_)
    exact hret _ _ _ _ dX4_isSort_15 (by omega) (⟨rfl, by omega⟩)
  · refine sd_iload_n C dX4_isSort_4 0 rfl rfl ?_
    refine sd_bipush C dX4_isSort_5 (by decide) (fun k5 ek5 => ?_)
    refine sd_icmp_ge C 14 dX4_isSort_7 (by decide) (fun c7 => ?_) (fun c7 => ?_)
    · refine sd_iconst C dX4_isSort_14 (by decide) (fun k14 ek14 => ?_)
      exact hret _ _ _ _ dX4_isSort_15 (by omega) (⟨rfl, by omega⟩)
    · refine sd_iconst C dX4_isSort_10 (by decide) (fun k10 ek10 => ?_)
      refine sd_goto C 15 dX4_isSort_11 (by decide) ?_
      exact hret _ _ _ _ dX4_isSort_15 (by omega) (⟨rfl, by omega⟩)

set_option maxRecDepth 20000 in
set_option maxHeartbeats 4000000 in
theorem c_X4_isWeek (l : Launch) (D : va_G) (ad : Nat → Nat) (ca : Nat → ClassId) (T : Nat → Nat) (σ : sd_Mem) (x : Int32) : sd_Cz l yX4_isWeek cX4_isWeek 1 0 D ad ca T σ [.int x] (fun r σ' => σ' = σ ∧ ((r.toInt = 1 ∧ 0 ≤ x.toInt ∧ x.toInt < 20) ∨ (r.toInt = 0 ∧ (x.toInt < 0 ∨ 20 ≤ x.toInt)))) := by
  refine sd_ent_z (own := RX4) (by decide) rfl (Nat.le_of_ble_eq_true rfl) (fun X C hret => ?_)
  show sd_Wd X 1 D ad ca σ [(0, .int x)] 0 []
  refine sd_iload_n C dX4_isWeek_0 0 rfl rfl ?_
  refine sd_if_lt C 14 dX4_isWeek_1 (by decide) (fun c1 => ?_) (fun c1 => ?_)
  · refine sd_iconst C dX4_isWeek_14 (by decide) (fun k14 ek14 => ?_)
    exact hret _ _ _ _ dX4_isWeek_15 (by omega) (⟨rfl, by omega⟩)
  · refine sd_iload_n C dX4_isWeek_4 0 rfl rfl ?_
    refine sd_bipush C dX4_isWeek_5 (by decide) (fun k5 ek5 => ?_)
    refine sd_icmp_ge C 14 dX4_isWeek_7 (by decide) (fun c7 => ?_) (fun c7 => ?_)
    · refine sd_iconst C dX4_isWeek_14 (by decide) (fun k14 ek14 => ?_)
      exact hret _ _ _ _ dX4_isWeek_15 (by omega) (⟨rfl, by omega⟩)
    · refine sd_iconst C dX4_isWeek_10 (by decide) (fun k10 ek10 => ?_)
      refine sd_goto C 15 dX4_isWeek_11 (by decide) ?_
      exact hret _ _ _ _ dX4_isWeek_15 (by omega) (⟨rfl, by omega⟩)

set_option maxRecDepth 20000 in
set_option maxHeartbeats 4000000 in
theorem c_X4_bit (l : Launch) (D : va_G) (ad : Nat → Nat) (ca : Nat → ClassId) (T : Nat → Nat) (σ : sd_Mem) (x : Int32) : sd_Ci l yX4_bit cX4_bit 1 0 D ad ca T σ [.int x] (fun r σ' => σ' = σ ∧ ((r.toInt = 1 ∧ x.toInt ≠ 0) ∨ (r.toInt = 0 ∧ x.toInt = 0))) := by
  refine sd_ent_i (own := RX4) (by decide) rfl (Nat.le_of_ble_eq_true rfl) (fun X C hret => ?_)
  show sd_Wd X 1 D ad ca σ [(0, .int x)] 0 []
  refine sd_iload_n C dX4_bit_0 0 rfl rfl ?_
  refine sd_if_eq C 8 dX4_bit_1 (by decide) (fun c1 => ?_) (fun c1 => ?_)
  · refine sd_iconst C dX4_bit_8 (by decide) (fun k8 ek8 => ?_)
    exact hret _ _ _ _ dX4_bit_9 (⟨rfl, by omega⟩)
  · refine sd_iconst C dX4_bit_4 (by decide) (fun k4 ek4 => ?_)
    refine sd_goto C 9 dX4_bit_5 (by decide) ?_
    exact hret _ _ _ _ dX4_bit_9 (⟨rfl, by omega⟩)

set_option maxRecDepth 20000 in
set_option maxHeartbeats 4000000 in
theorem c_X4_isFunnel (l : Launch) (D : va_G) (ad : Nat → Nat) (ca : Nat → ClassId) (T : Nat → Nat) (σ : sd_Mem) (x : Int32) : sd_Cz l yX4_isFunnel cX4_isFunnel 2 0 D ad ca T σ [.ref (ad 0), .int x] (fun r σ' => σ' = σ ∧ ((r.toInt = 1 ∧ 0 ≤ x.toInt ∧ x.toInt < (σ 0 7).toInt) ∨ (r.toInt = 0 ∧ (x.toInt < 0 ∨ (σ 0 7).toInt ≤ x.toInt)))) := by
  refine sd_ent_z (own := RX4) (by decide) rfl (Nat.le_of_ble_eq_true rfl) (fun X C hret => ?_)
  show sd_Wd X 2 D ad ca σ [(0, .ref (ad 0)), (1, .int x)] 0 []
  refine sd_iload_n C dX4_isFunnel_0 1 rfl rfl ?_
  refine sd_if_lt C 16 dX4_isFunnel_1 (by decide) (fun c1 => ?_) (fun c1 => ?_)
  · refine sd_iconst C dX4_isFunnel_16 (by decide) (fun k16 ek16 => ?_)
    exact hret _ _ _ _ dX4_isFunnel_17 (by omega) (⟨rfl, by omega⟩)
  · refine sd_iload_n C dX4_isFunnel_4 1 rfl rfl ?_
    refine sd_aload_n C dX4_isFunnel_5 0 rfl rfl ?_
    refine sd_get C (by decide) rfl rfl 7 (by decide) rfl wf_X4_45 dX4_isFunnel_6 ?_
    refine sd_icmp_ge C 16 dX4_isFunnel_9 (by decide) (fun c9 => ?_) (fun c9 => ?_)
    · refine sd_iconst C dX4_isFunnel_16 (by decide) (fun k16 ek16 => ?_)
      exact hret _ _ _ _ dX4_isFunnel_17 (by omega) (⟨rfl, by omega⟩)
    · refine sd_iconst C dX4_isFunnel_12 (by decide) (fun k12 ek12 => ?_)
      refine sd_goto C 17 dX4_isFunnel_13 (by decide) ?_
      exact hret _ _ _ _ dX4_isFunnel_17 (by omega) (⟨rfl, by omega⟩)

set_option maxRecDepth 20000 in
set_option maxHeartbeats 4000000 in
theorem c_X4_isJoined (l : Launch) (D : va_G) (ad : Nat → Nat) (ca : Nat → ClassId) (T : Nat → Nat) (σ : sd_Mem) (x : Int32) (h0 : 0 ≤ x.toInt) (h1 : x.toInt < 24) : sd_Cz l yX4_isJoined cX4_isJoined 2 0 D ad ca T σ [.ref (ad 0), .int x] (fun r σ' => σ' = σ ∧ ((r.toInt = 1 ∧ (σ 7 x.toInt.toNat).toInt ≠ x.toInt) ∨ (r.toInt = 0 ∧ (σ 7 x.toInt.toNat).toInt = x.toInt))) := by
  refine sd_ent_z (own := RX4) (by decide) rfl (Nat.le_of_ble_eq_true rfl) (fun X C hret => ?_)
  show sd_Wd X 2 D ad ca σ [(0, .ref (ad 0)), (1, .int x)] 0 []
  refine sd_aload_n C dX4_isJoined_0 0 rfl rfl ?_
  refine sd_get C (by decide) rfl rfl 1 (by decide) rfl wf_X4_16 dX4_isJoined_1 ?_
  refine sd_iload_n C dX4_isJoined_4 1 rfl rfl ?_
  refine sd_iald C (by decide) rfl (x.toInt.toNat) ⟨by omega, by omega⟩ dX4_isJoined_5 ?_
  refine sd_iload_n C dX4_isJoined_6 1 rfl rfl ?_
  refine sd_icmp_eq C 14 dX4_isJoined_7 (by decide) (fun c7 => ?_) (fun c7 => ?_)
  · refine sd_iconst C dX4_isJoined_14 (by decide) (fun k14 ek14 => ?_)
    exact hret _ _ _ _ dX4_isJoined_15 (by omega) (⟨rfl, by omega⟩)
  · refine sd_iconst C dX4_isJoined_10 (by decide) (fun k10 ek10 => ?_)
    refine sd_goto C 15 dX4_isJoined_11 (by decide) ?_
    exact hret _ _ _ _ dX4_isJoined_15 (by omega) (⟨rfl, by omega⟩)

set_option maxRecDepth 20000 in
set_option maxHeartbeats 4000000 in
theorem c_X0_has (l : Launch) (D : va_G) (ad : Nat → Nat) (ca : Nat → ClassId) (T : Nat → Nat) (σ : sd_Mem) (x : Int32) : sd_Cz l yX0_has cX0_has 2 0 D ad ca T σ [.ref (ad 1), .int x] (fun r σ' => σ' = σ ∧ ((r.toInt = 1 ∧ 0 ≤ x.toInt ∧ x.toInt < (σ 1 5).toInt) ∨ (r.toInt = 0 ∧ (x.toInt < 0 ∨ (σ 1 5).toInt ≤ x.toInt)))) := by
  refine sd_ent_z (own := RX0) (by decide) rfl (Nat.le_of_ble_eq_true rfl) (fun X C hret => ?_)
  show sd_Wd X 2 D ad ca σ [(0, .ref (ad 1)), (1, .int x)] 0 []
  refine sd_iload_n C dX0_has_0 1 rfl rfl ?_
  refine sd_if_lt C 16 dX0_has_1 (by decide) (fun c1 => ?_) (fun c1 => ?_)
  · refine sd_iconst C dX0_has_16 (by decide) (fun k16 ek16 => ?_)
    exact hret _ _ _ _ dX0_has_17 (by omega) (⟨rfl, by omega⟩)
  · refine sd_iload_n C dX0_has_4 1 rfl rfl ?_
    refine sd_aload_n C dX0_has_5 0 rfl rfl ?_
    refine sd_get C (by decide) rfl rfl 5 (by decide) rfl wf_X0_28 dX0_has_6 ?_
    refine sd_icmp_ge C 16 dX0_has_9 (by decide) (fun c9 => ?_) (fun c9 => ?_)
    · refine sd_iconst C dX0_has_16 (by decide) (fun k16 ek16 => ?_)
      exact hret _ _ _ _ dX0_has_17 (by omega) (⟨rfl, by omega⟩)
    · refine sd_iconst C dX0_has_12 (by decide) (fun k12 ek12 => ?_)
      refine sd_goto C 17 dX0_has_13 (by decide) ?_
      exact hret _ _ _ _ dX0_has_17 (by omega) (⟨rfl, by omega⟩)

set_option maxRecDepth 20000 in
set_option maxHeartbeats 4000000 in
theorem c_X2_has (l : Launch) (D : va_G) (ad : Nat → Nat) (ca : Nat → ClassId) (T : Nat → Nat) (σ : sd_Mem) (q : Nat) (hq : q < 24) (x : Int32) : sd_Cz l yX2_has cX2_has 2 0 D ad ca T σ [.ref (ad (16 + q)), .int x] (fun r σ' => σ' = σ ∧ ((r.toInt = 1 ∧ 0 ≤ x.toInt ∧ x.toInt < (σ (16 + q) 2).toInt) ∨ (r.toInt = 0 ∧ (x.toInt < 0 ∨ (σ (16 + q) 2).toInt ≤ x.toInt)))) := by
  refine sd_ent_z (own := RX2) (by decide) rfl (Nat.le_of_ble_eq_true rfl) (fun X C hret => ?_)
  show sd_Wd X 2 D ad ca σ [(0, .ref (ad (16 + q))), (1, .int x)] 0 []
  refine sd_iload_n C dX2_has_0 1 rfl rfl ?_
  refine sd_if_lt C 16 dX2_has_1 (by decide) (fun c1 => ?_) (fun c1 => ?_)
  · refine sd_iconst C dX2_has_16 (by decide) (fun k16 ek16 => ?_)
    exact hret _ _ _ _ dX2_has_17 (by omega) (⟨rfl, by omega⟩)
  · refine sd_iload_n C dX2_has_4 1 rfl rfl ?_
    refine sd_aload_n C dX2_has_5 0 rfl rfl ?_
    refine sd_get C (by omega) (sd_cell_row _ (by omega)) rfl 2 (by decide) rfl wf_X2_19 dX2_has_6 ?_
    refine sd_icmp_ge C 16 dX2_has_9 (by decide) (fun c9 => ?_) (fun c9 => ?_)
    · refine sd_iconst C dX2_has_16 (by decide) (fun k16 ek16 => ?_)
      exact hret _ _ _ _ dX2_has_17 (by omega) (⟨rfl, by omega⟩)
    · refine sd_iconst C dX2_has_12 (by decide) (fun k12 ek12 => ?_)
      refine sd_goto C 17 dX2_has_13 (by decide) ?_
      exact hret _ _ _ _ dX2_has_17 (by omega) (⟨rfl, by omega⟩)

set_option maxRecDepth 20000 in
set_option maxHeartbeats 4000000 in
theorem c_X2_timeAt (l : Launch) (D : va_G) (ad : Nat → Nat) (ca : Nat → ClassId) (T : Nat → Nat) (σ : sd_Mem) (q j : Nat) (hq : q < 24) (x : Int32) (hx : x.toInt = (j : Int)) (hj : (j : Int) < (σ (16 + q) 2).toInt) (hj2 : j < 120) (hc0 : 0 ≤ (σ (40 + q) j).toInt) (hc1 : (σ (40 + q) j).toInt < 120) : sd_Ci l yX2_timeAt cX2_timeAt 2 1 D ad ca T σ [.ref (ad (16 + q)), .int x] (fun r σ' => σ' = σ ∧ (r = σ 2 (σ (40 + q) j).toInt.toNat)) := by
  refine sd_ent_i (own := RX2) (by decide) rfl (Nat.le_of_ble_eq_true rfl) (fun X C hret => ?_)
  show sd_Wd X 2 D ad ca σ [(0, .ref (ad (16 + q))), (1, .int x)] 0 []
  refine sd_aload_n C dX2_timeAt_0 0 rfl rfl ?_
  refine sd_iload_n C dX2_timeAt_1 1 rfl rfl ?_
  refine sd_pVz C (c_X2_has l D ad ca T σ q hq x) mv_X2_has wm_X2_23 (by omega) (sd_cell_row _ (by omega)) rfl (by decide) rfl rfl (by decide) dX2_timeAt_2 (fun r2 h2 => ?_)
  try dsimp only at h2
  refine sd_if_eq C 25 dX2_timeAt_5 (by decide) (fun c5 => ?_) (fun c5 => ?_)
  · exact absurd c5 (by omega)
  · refine sd_aload_n C dX2_timeAt_8 0 rfl rfl ?_
    refine sd_get C (by omega) (sd_cell_row _ (by omega)) rfl 0 (by decide) rfl wf_X2_15 dX2_timeAt_9 ?_
    refine sd_get C (by decide) rfl rfl 0 (by decide) rfl wf_X2_27 dX2_timeAt_12 ?_
    refine sd_aload_n C dX2_timeAt_15 0 rfl rfl ?_
    refine sd_get C (by omega) (sd_cell_row _ (by omega)) rfl 1 (by decide) rfl wf_X2_9 dX2_timeAt_16 ?_
    refine sd_iload_n C dX2_timeAt_19 1 rfl rfl ?_
    refine sd_iald C (by omega) (sd_cell_rowA _ (by omega)) (j) ⟨by omega, by omega⟩ dX2_timeAt_20 ?_
    refine sd_iald C (by decide) rfl ((σ (40 + q) (j)).toInt.toNat) ⟨by omega, by omega⟩ dX2_timeAt_21 ?_
    refine sd_goto C 26 dX2_timeAt_22 (by decide) ?_
    exact hret _ _ _ _ dX2_timeAt_26 (⟨rfl, rfl⟩)

set_option maxRecDepth 20000 in
set_option maxHeartbeats 4000000 in
theorem c_X2_sortAt (l : Launch) (D : va_G) (ad : Nat → Nat) (ca : Nat → ClassId) (T : Nat → Nat) (σ : sd_Mem) (q j : Nat) (hq : q < 24) (x : Int32) (hx : x.toInt = (j : Int)) (hj : (j : Int) < (σ (16 + q) 2).toInt) (hj2 : j < 120) (hc0 : 0 ≤ (σ (40 + q) j).toInt) (hc1 : (σ (40 + q) j).toInt < 120) : sd_Ci l yX2_sortAt cX2_sortAt 2 1 D ad ca T σ [.ref (ad (16 + q)), .int x] (fun r σ' => σ' = σ ∧ (r = σ 4 (σ (40 + q) j).toInt.toNat)) := by
  refine sd_ent_i (own := RX2) (by decide) rfl (Nat.le_of_ble_eq_true rfl) (fun X C hret => ?_)
  show sd_Wd X 2 D ad ca σ [(0, .ref (ad (16 + q))), (1, .int x)] 0 []
  refine sd_aload_n C dX2_sortAt_0 0 rfl rfl ?_
  refine sd_iload_n C dX2_sortAt_1 1 rfl rfl ?_
  refine sd_pVz C (c_X2_has l D ad ca T σ q hq x) mv_X2_has wm_X2_23 (by omega) (sd_cell_row _ (by omega)) rfl (by decide) rfl rfl (by decide) dX2_sortAt_2 (fun r2 h2 => ?_)
  try dsimp only at h2
  refine sd_if_eq C 25 dX2_sortAt_5 (by decide) (fun c5 => ?_) (fun c5 => ?_)
  · exact absurd c5 (by omega)
  · refine sd_aload_n C dX2_sortAt_8 0 rfl rfl ?_
    refine sd_get C (by omega) (sd_cell_row _ (by omega)) rfl 0 (by decide) rfl wf_X2_15 dX2_sortAt_9 ?_
    refine sd_get C (by decide) rfl rfl 2 (by decide) rfl wf_X2_32 dX2_sortAt_12 ?_
    refine sd_aload_n C dX2_sortAt_15 0 rfl rfl ?_
    refine sd_get C (by omega) (sd_cell_row _ (by omega)) rfl 1 (by decide) rfl wf_X2_9 dX2_sortAt_16 ?_
    refine sd_iload_n C dX2_sortAt_19 1 rfl rfl ?_
    refine sd_iald C (by omega) (sd_cell_rowA _ (by omega)) (j) ⟨by omega, by omega⟩ dX2_sortAt_20 ?_
    refine sd_iald C (by decide) rfl ((σ (40 + q) (j)).toInt.toNat) ⟨by omega, by omega⟩ dX2_sortAt_21 ?_
    refine sd_goto C 26 dX2_sortAt_22 (by decide) ?_
    exact hret _ _ _ _ dX2_sortAt_26 (⟨rfl, rfl⟩)

set_option maxRecDepth 20000 in
set_option maxHeartbeats 4000000 in
theorem c_X5_in (l : Launch) (D : va_G) (ad : Nat → Nat) (ca : Nat → ClassId) (T : Nat → Nat) (σ : sd_Mem) (x y z : Int64) : sd_Cz l yX5_in cX5_in 6 0 D ad ca T σ [.long x, .long y, .long z] (fun r σ' => σ' = σ ∧ ((r.toInt = 1 ∧ y.toInt ≤ x.toInt ∧ x.toInt ≤ z.toInt) ∨ (r.toInt = 0 ∧ (x.toInt < y.toInt ∨ z.toInt < x.toInt)))) := by
  refine sd_ent_z (own := RX5) (by decide) rfl (Nat.le_of_ble_eq_true rfl) (fun X C hret => ?_)
  show sd_Wd X 6 D ad ca σ [(0, .long x), (2, .long y), (4, .long z)] 0 []
  refine sd_lload_n C dX5_in_0 0 rfl rfl ?_
  refine sd_lload_n C dX5_in_1 1 rfl rfl ?_
  refine sd_lcmp C dX5_in_2 (fun g2 eg2 => ?_)
  refine sd_if_lt C 17 dX5_in_3 (by decide) (fun c3 => ?_) (fun c3 => ?_)
  · refine sd_iconst C dX5_in_17 (by decide) (fun k17 ek17 => ?_)
    exact hret _ _ _ _ dX5_in_18 (by omega) (⟨rfl, by omega⟩)
  · refine sd_lload_n C dX5_in_6 0 rfl rfl ?_
    refine sd_lload C dX5_in_7 2 rfl ?_
    refine sd_lcmp C dX5_in_9 (fun g9 eg9 => ?_)
    refine sd_if_gt C 17 dX5_in_10 (by decide) (fun c10 => ?_) (fun c10 => ?_)
    · refine sd_iconst C dX5_in_17 (by decide) (fun k17 ek17 => ?_)
      exact hret _ _ _ _ dX5_in_18 (by omega) (⟨rfl, by omega⟩)
    · refine sd_iconst C dX5_in_13 (by decide) (fun k13 ek13 => ?_)
      refine sd_goto C 18 dX5_in_14 (by decide) ?_
      exact hret _ _ _ _ dX5_in_18 (by omega) (⟨rfl, by omega⟩)

set_option maxRecDepth 20000 in
set_option maxHeartbeats 4000000 in
theorem c_X5_isWho (l : Launch) (D : va_G) (ad : Nat → Nat) (ca : Nat → ClassId) (T : Nat → Nat) (σ : sd_Mem) (x : Int32) : sd_Cz l yX5_isWho cX5_isWho 1 1 D ad ca T σ [.int x] (fun r σ' => σ' = σ ∧ ((r.toInt = 1 ∧ 0 ≤ x.toInt ∧ x.toInt < 24) ∨ (r.toInt = 0 ∧ (x.toInt < 0 ∨ 24 ≤ x.toInt)))) := by
  refine sd_ent_z (own := RX5) (by decide) rfl (Nat.le_of_ble_eq_true rfl) (fun X C hret => ?_)
  show sd_Wd X 1 D ad ca σ [(0, .int x)] 0 []
  refine sd_iload_n C dX5_isWho_0 0 rfl rfl ?_
  refine sd_i2l C dX5_isWho_1 (fun g1 eg1 => ?_)
  refine sd_lconst C dX5_isWho_2 (z := 0) (by decide) (fun k2 ek2 => ?_)
  refine sd_ldc2 C dX5_isWho_3 wk_X5_59 (n := 23) (by decide) (fun k3 ek3 => ?_)
  refine sd_pSz C (c_X5_in l D ad ca T σ g1 k2 k3) mv_X5_in wm_X5_61 (by decide) rfl rfl (Nat.le_of_ble_eq_true rfl) dX5_isWho_6 (fun r6 h6 => ?_)
  try dsimp only at h6
  exact hret _ _ _ _ dX5_isWho_9 (by omega) (⟨rfl, by omega⟩)

set_option maxRecDepth 20000 in
set_option maxHeartbeats 4000000 in
theorem c_X5_isClick (l : Launch) (D : va_G) (ad : Nat → Nat) (ca : Nat → ClassId) (T : Nat → Nat) (σ : sd_Mem) (x : Int32) (h0 : 0 ≤ (σ 76 0).toInt) : sd_Cz l yX5_isClick cX5_isClick 2 1 D ad ca T σ [.ref (ad 76), .int x] (fun r σ' => σ' = σ ∧ ((r.toInt = 1 ∧ 0 ≤ x.toInt ∧ x.toInt < (σ 76 0).toInt) ∨ (r.toInt = 0 ∧ (x.toInt < 0 ∨ (σ 76 0).toInt ≤ x.toInt)))) := by
  refine sd_ent_z (own := RX5) (by decide) rfl (Nat.le_of_ble_eq_true rfl) (fun X C hret => ?_)
  show sd_Wd X 2 D ad ca σ [(0, .ref (ad 76)), (1, .int x)] 0 []
  have hg := sd_rng (σ 76 0)
  refine sd_iload_n C dX5_isClick_0 1 rfl rfl ?_
  refine sd_i2l C dX5_isClick_1 (fun g1 eg1 => ?_)
  refine sd_lconst C dX5_isClick_2 (z := 0) (by decide) (fun k2 ek2 => ?_)
  refine sd_aload_n C dX5_isClick_3 0 rfl rfl ?_
  refine sd_get C (by decide) rfl rfl 0 (by decide) rfl wf_X5_65 dX5_isClick_4 ?_
  refine sd_iconst C dX5_isClick_7 (by decide) (fun k7 ek7 => ?_)
  refine sd_isub C dX5_isClick_8 (by omega) (fun z8 ez8 => ?_)
  refine sd_i2l C dX5_isClick_9 (fun g9 eg9 => ?_)
  refine sd_pSz C (c_X5_in l D ad ca T σ g1 k2 g9) mv_X5_in wm_X5_61 (by decide) rfl rfl (Nat.le_of_ble_eq_true rfl) dX5_isClick_10 (fun r10 h10 => ?_)
  try dsimp only at h10
  exact hret _ _ _ _ dX5_isClick_13 (by omega) (⟨rfl, by omega⟩)

set_option maxRecDepth 20000 in
set_option maxHeartbeats 4000000 in
theorem c_X5_isFunnel (l : Launch) (D : va_G) (ad : Nat → Nat) (ca : Nat → ClassId) (T : Nat → Nat) (σ : sd_Mem) (x : Int32) (h0 : 0 ≤ (σ 76 7).toInt) : sd_Cz l yX5_isFunnel cX5_isFunnel 2 1 D ad ca T σ [.ref (ad 76), .int x] (fun r σ' => σ' = σ ∧ ((r.toInt = 1 ∧ 0 ≤ x.toInt ∧ x.toInt < (σ 76 7).toInt) ∨ (r.toInt = 0 ∧ (x.toInt < 0 ∨ (σ 76 7).toInt ≤ x.toInt)))) := by
  refine sd_ent_z (own := RX5) (by decide) rfl (Nat.le_of_ble_eq_true rfl) (fun X C hret => ?_)
  show sd_Wd X 2 D ad ca σ [(0, .ref (ad 76)), (1, .int x)] 0 []
  have hg := sd_rng (σ 76 7)
  refine sd_iload_n C dX5_isFunnel_0 1 rfl rfl ?_
  refine sd_i2l C dX5_isFunnel_1 (fun g1 eg1 => ?_)
  refine sd_lconst C dX5_isFunnel_2 (z := 0) (by decide) (fun k2 ek2 => ?_)
  refine sd_aload_n C dX5_isFunnel_3 0 rfl rfl ?_
  refine sd_get C (by decide) rfl rfl 7 (by decide) rfl wf_X5_130 dX5_isFunnel_4 ?_
  refine sd_iconst C dX5_isFunnel_7 (by decide) (fun k7 ek7 => ?_)
  refine sd_isub C dX5_isFunnel_8 (by omega) (fun z8 ez8 => ?_)
  refine sd_i2l C dX5_isFunnel_9 (fun g9 eg9 => ?_)
  refine sd_pSz C (c_X5_in l D ad ca T σ g1 k2 g9) mv_X5_in wm_X5_61 (by decide) rfl rfl (Nat.le_of_ble_eq_true rfl) dX5_isFunnel_10 (fun r10 h10 => ?_)
  try dsimp only at h10
  exact hret _ _ _ _ dX5_isFunnel_13 (by omega) (⟨rfl, by omega⟩)

set_option maxRecDepth 20000 in
set_option maxHeartbeats 4000000 in
theorem c_X5_personOf (l : Launch) (D : va_G) (ad : Nat → Nat) (ca : Nat → ClassId) (T : Nat → Nat) (σ : sd_Mem) (β : sp_B) (hM : sd_MR σ β) (hG : sd_RG β) (p : Nat) (hp : p < 24) (x : Int32) (hx : x.toInt = (p : Int)) : sd_Ci l yX5_personOf cX5_personOf 2 0 D ad ca T σ [.ref (ad 76), .int x] (fun r σ' => σ' = σ ∧ (r.toInt = β 5 p)) := by
  refine sd_ent_i (own := RX5) (by decide) rfl (Nat.le_of_ble_eq_true rfl) (fun X C hret => ?_)
  show sd_Wd X 2 D ad ca σ [(0, .ref (ad 76)), (1, .int x)] 0 []
  have h1 := hM.2.2.1 p hp
  have h2 := hG.2.2.1 p hp
  refine sd_aload_n C dX5_personOf_0 0 rfl rfl ?_
  refine sd_get C (by decide) rfl rfl 5 (by decide) rfl wf_X5_23 dX5_personOf_1 ?_
  refine sd_iload_n C dX5_personOf_4 1 rfl rfl ?_
  refine sd_iald C (by decide) rfl (p) ⟨by omega, by omega⟩ dX5_personOf_5 ?_
  refine sd_if_lt C 18 dX5_personOf_6 (by decide) (fun c6 => ?_) (fun c6 => ?_)
  · refine sd_iload_n C dX5_personOf_18 1 rfl rfl ?_
    exact hret _ _ _ _ dX5_personOf_19 (⟨rfl, by omega⟩)
  · refine sd_aload_n C dX5_personOf_9 0 rfl rfl ?_
    refine sd_get C (by decide) rfl rfl 5 (by decide) rfl wf_X5_23 dX5_personOf_10 ?_
    refine sd_iload_n C dX5_personOf_13 1 rfl rfl ?_
    refine sd_iald C (by decide) rfl (p) ⟨by omega, by omega⟩ dX5_personOf_14 ?_
    refine sd_goto C 19 dX5_personOf_15 (by decide) ?_
    exact hret _ _ _ _ dX5_personOf_19 (⟨rfl, by omega⟩)

set_option maxRecDepth 20000 in
set_option maxHeartbeats 4000000 in
theorem c_X5_isAhead (l : Launch) (D : va_G) (ad : Nat → Nat) (ca : Nat → ClassId) (T : Nat → Nat) (σ : sd_Mem) (β : sp_B) (hM : sd_MR σ β) (hG : sd_RG β) (a b : Nat) (ha : a < 120) (hb : b < a) (x y : Int32) (hx : x.toInt = (a : Int)) (hy : y.toInt = (b : Int)) : sd_Cz l yX5_isAhead cX5_isAhead 3 0 D ad ca T σ [.ref (ad 76), .int x, .int y] (fun r σ' => σ' = σ ∧ ((r.toInt = 1 ∧ β 1 a < β 1 b) ∨ (r.toInt = 0 ∧ β 1 b ≤ β 1 a))) := by
  refine sd_ent_z (own := RX5) (by decide) rfl (Nat.le_of_ble_eq_true rfl) (fun X C hret => ?_)
  show sd_Wd X 3 D ad ca σ [(0, .ref (ad 76)), (1, .int x), (2, .int y)] 0 []
  have a1 := hM.2.1 a ha
  have b1 := hM.2.1 b (by omega)
  refine sd_aload_n C dX5_isAhead_0 0 rfl rfl ?_
  refine sd_get C (by decide) rfl rfl 1 (by decide) rfl wf_X5_7 dX5_isAhead_1 ?_
  refine sd_iload_n C dX5_isAhead_4 1 rfl rfl ?_
  refine sd_iald C (by decide) rfl (a) ⟨by omega, by omega⟩ dX5_isAhead_5 ?_
  refine sd_aload_n C dX5_isAhead_6 0 rfl rfl ?_
  refine sd_get C (by decide) rfl rfl 1 (by decide) rfl wf_X5_7 dX5_isAhead_7 ?_
  refine sd_iload_n C dX5_isAhead_10 2 rfl rfl ?_
  refine sd_iald C (by decide) rfl (b) ⟨by omega, by omega⟩ dX5_isAhead_11 ?_
  refine sd_icmp_lt C 35 dX5_isAhead_12 (by decide) (fun c12 => ?_) (fun c12 => ?_)
  · refine sd_iconst C dX5_isAhead_35 (by decide) (fun k35 ek35 => ?_)
    refine sd_goto C 40 dX5_isAhead_36 (by decide) ?_
    exact hret _ _ _ _ dX5_isAhead_40 (by omega) (⟨rfl, by omega⟩)
  · refine sd_aload_n C dX5_isAhead_15 0 rfl rfl ?_
    refine sd_get C (by decide) rfl rfl 1 (by decide) rfl wf_X5_7 dX5_isAhead_16 ?_
    refine sd_iload_n C dX5_isAhead_19 1 rfl rfl ?_
    refine sd_iald C (by decide) rfl (a) ⟨by omega, by omega⟩ dX5_isAhead_20 ?_
    refine sd_aload_n C dX5_isAhead_21 0 rfl rfl ?_
    refine sd_get C (by decide) rfl rfl 1 (by decide) rfl wf_X5_7 dX5_isAhead_22 ?_
    refine sd_iload_n C dX5_isAhead_25 2 rfl rfl ?_
    refine sd_iald C (by decide) rfl (b) ⟨by omega, by omega⟩ dX5_isAhead_26 ?_
    refine sd_icmp_ne C 39 dX5_isAhead_27 (by decide) (fun c27 => ?_) (fun c27 => ?_)
    · refine sd_iconst C dX5_isAhead_39 (by decide) (fun k39 ek39 => ?_)
      exact hret _ _ _ _ dX5_isAhead_40 (by omega) (⟨rfl, by omega⟩)
    · refine sd_iload_n C dX5_isAhead_30 1 rfl rfl ?_
      refine sd_iload_n C dX5_isAhead_31 2 rfl rfl ?_
      refine sd_icmp_ge C 39 dX5_isAhead_32 (by decide) (fun c32 => ?_) (fun c32 => ?_)
      · refine sd_iconst C dX5_isAhead_39 (by decide) (fun k39 ek39 => ?_)
        exact hret _ _ _ _ dX5_isAhead_40 (by omega) (⟨rfl, by omega⟩)
      · refine sd_iconst C dX5_isAhead_35 (by decide) (fun k35 ek35 => ?_)
        refine sd_goto C 40 dX5_isAhead_36 (by decide) ?_
        exact hret _ _ _ _ dX5_isAhead_40 (by omega) (⟨rfl, by omega⟩)

set_option maxRecDepth 20000 in
set_option maxHeartbeats 4000000 in
theorem c_X5_isCut (l : Launch) (D : va_G) (ad : Nat → Nat) (ca : Nat → ClassId) (T : Nat → Nat) (σ : sd_Mem) (β : sp_B) (l9 : List Nat) (hW : sd_MW σ β l9) (j : Nat) (h0 : 1 ≤ j) (hj : j < l9.length) (x : Int32) (hx : x.toInt = (j : Int)) : sd_Cz l yX5_isCut cX5_isCut 4 0 D ad ca T σ [.ref (ad 76), .int x] (fun r σ' => σ' = σ ∧ ((r.toInt = 1 ∧ sp_cut β (l9.getD (j - 1) 0) (l9.getD j 0) = true) ∨ (r.toInt = 0 ∧ sp_cut β (l9.getD (j - 1) 0) (l9.getD j 0) = false))) := by
  refine sd_ent_z (own := RX5) (by decide) rfl (Nat.le_of_ble_eq_true rfl) (fun X C hret => ?_)
  show sd_Wd X 4 D ad ca σ [(0, .ref (ad 76)), (1, .int x)] 0 []
  have hl9 := hW.2.2.2.2.1
  obtain ⟨hM, hG, -⟩ := id hW
  have t1 := hW.at hj
  have t2 := hW.at (j := j - 1) (by omega)
  have u0 := hM.2.2.2.1 0 (by decide)
  have u1 := hM.2.2.2.1 1 (by decide)
  have u2 := hM.2.2.2.1 2 (by decide)
  refine sd_aload_n C dX5_isCut_0 0 rfl rfl ?_
  refine sd_get C (by decide) rfl rfl 13 (by decide) rfl wf_X5_44 dX5_isCut_1 ?_
  refine sd_iload_n C dX5_isCut_4 1 rfl rfl ?_
  refine sd_iconst C dX5_isCut_5 (by decide) (fun k5 ek5 => ?_)
  refine sd_isub C dX5_isCut_6 (by omega) (fun z6 ez6 => ?_)
  refine sd_iald C (by decide) rfl ((j - 1)) ⟨by omega, by omega⟩ dX5_isCut_7 ?_
  refine sd_istore_n (lv' := [(2, .int (σ 88 ((j - 1)))), (0, .ref (ad 76)), (1, .int x)]) C dX5_isCut_8 rfl (by decide) rfl ?_
  refine sd_aload_n C dX5_isCut_9 1 rfl rfl ?_
  refine sd_get C (by decide) rfl rfl 13 (by decide) rfl wf_X5_44 dX5_isCut_10 ?_
  refine sd_iload_n C dX5_isCut_13 2 rfl rfl ?_
  refine sd_iald C (by decide) rfl (j) ⟨by omega, by omega⟩ dX5_isCut_14 ?_
  refine sd_istore_n (lv' := [(3, .int (σ 88 (j))), (2, .int (σ 88 ((j - 1)))), (0, .ref (ad 76)), (1, .int x)]) C dX5_isCut_15 rfl (by decide) rfl ?_
  refine sd_aload_n C dX5_isCut_16 2 rfl rfl ?_
  refine sd_get C (by decide) rfl rfl 1 (by decide) rfl wf_X5_7 dX5_isCut_17 ?_
  refine sd_iload_n C dX5_isCut_20 0 rfl rfl ?_
  refine sd_iald C (by decide) rfl (l9.getD j 0) ⟨by omega, by omega⟩ dX5_isCut_21 ?_
  refine sd_aload_n C dX5_isCut_22 2 rfl rfl ?_
  refine sd_get C (by decide) rfl rfl 1 (by decide) rfl wf_X5_7 dX5_isCut_23 ?_
  refine sd_iload_n C dX5_isCut_26 1 rfl rfl ?_
  refine sd_iald C (by decide) rfl (l9.getD (j - 1) 0) ⟨by omega, by omega⟩ dX5_isCut_27 ?_
  refine sd_isub C dX5_isCut_28 (by omega) (fun z28 ez28 => ?_)
  refine sd_aload_n C dX5_isCut_29 2 rfl rfl ?_
  refine sd_get C (by decide) rfl rfl 6 (by decide) rfl wf_X5_26 dX5_isCut_30 ?_
  refine sd_iconst C dX5_isCut_33 (by decide) (fun k33 ek33 => ?_)
  refine sd_iald C (by decide) rfl (0) ⟨by omega, by omega⟩ dX5_isCut_34 ?_
  refine sd_icmp_gt C 86 dX5_isCut_35 (by decide) (fun c35 => ?_) (fun c35 => ?_)
  · refine sd_iconst C dX5_isCut_86 (by decide) (fun k86 ek86 => ?_)
    refine sd_goto C 91 dX5_isCut_87 (by decide) ?_
    exact hret _ _ _ _ dX5_isCut_91 (by omega) (⟨rfl, Or.inl ⟨by omega, sp_cut_t (by omega)⟩⟩)
  · refine sd_aload_n C dX5_isCut_38 2 rfl rfl ?_
    refine sd_get C (by decide) rfl rfl 6 (by decide) rfl wf_X5_26 dX5_isCut_39 ?_
    refine sd_iconst C dX5_isCut_42 (by decide) (fun k42 ek42 => ?_)
    refine sd_iald C (by decide) rfl (1) ⟨by omega, by omega⟩ dX5_isCut_43 ?_
    refine sd_iconst C dX5_isCut_44 (by decide) (fun k44 ek44 => ?_)
    refine sd_icmp_ne C 71 dX5_isCut_45 (by decide) (fun c45 => ?_) (fun c45 => ?_)
    · refine sd_aload_n C dX5_isCut_71 2 rfl rfl ?_
      refine sd_get C (by decide) rfl rfl 3 (by decide) rfl wf_X5_16 dX5_isCut_72 ?_
      refine sd_iload_n C dX5_isCut_75 1 rfl rfl ?_
      refine sd_iald C (by decide) rfl (l9.getD (j - 1) 0) ⟨by omega, by omega⟩ dX5_isCut_76 ?_
      refine sd_aload_n C dX5_isCut_77 2 rfl rfl ?_
      refine sd_get C (by decide) rfl rfl 6 (by decide) rfl wf_X5_26 dX5_isCut_78 ?_
      refine sd_iconst C dX5_isCut_81 (by decide) (fun k81 ek81 => ?_)
      refine sd_iald C (by decide) rfl (2) ⟨by omega, by omega⟩ dX5_isCut_82 ?_
      refine sd_icmp_ne C 90 dX5_isCut_83 (by decide) (fun c83 => ?_) (fun c83 => ?_)
      · refine sd_iconst C dX5_isCut_90 (by decide) (fun k90 ek90 => ?_)
        exact hret _ _ _ _ dX5_isCut_91 (by omega) (⟨rfl, Or.inr ⟨by omega, sp_cut_f (by omega)⟩⟩)
      · refine sd_iconst C dX5_isCut_86 (by decide) (fun k86 ek86 => ?_)
        refine sd_goto C 91 dX5_isCut_87 (by decide) ?_
        exact hret _ _ _ _ dX5_isCut_91 (by omega) (⟨rfl, Or.inl ⟨by omega, sp_cut_t (by omega)⟩⟩)
    · refine sd_aload_n C dX5_isCut_48 2 rfl rfl ?_
      refine sd_get C (by decide) rfl rfl 1 (by decide) rfl wf_X5_7 dX5_isCut_49 ?_
      refine sd_iload_n C dX5_isCut_52 1 rfl rfl ?_
      refine sd_iald C (by decide) rfl (l9.getD (j - 1) 0) ⟨by omega, by omega⟩ dX5_isCut_53 ?_
      refine sd_sipush C dX5_isCut_54 (by decide) (fun k54 ek54 => ?_)
      refine sd_idiv C 1440 (by decide) dX5_isCut_57 ek54 (by omega) (fun z57 ez57 => ?_)
      refine sd_aload_n C dX5_isCut_58 2 rfl rfl ?_
      refine sd_get C (by decide) rfl rfl 1 (by decide) rfl wf_X5_7 dX5_isCut_59 ?_
      refine sd_iload_n C dX5_isCut_62 0 rfl rfl ?_
      refine sd_iald C (by decide) rfl (l9.getD j 0) ⟨by omega, by omega⟩ dX5_isCut_63 ?_
      refine sd_sipush C dX5_isCut_64 (by decide) (fun k64 ek64 => ?_)
      refine sd_idiv C 1440 (by decide) dX5_isCut_67 ek64 (by omega) (fun z67 ez67 => ?_)
      refine sd_icmp_ne C 86 dX5_isCut_68 (by decide) (fun c68 => ?_) (fun c68 => ?_)
      · refine sd_iconst C dX5_isCut_86 (by decide) (fun k86 ek86 => ?_)
        refine sd_goto C 91 dX5_isCut_87 (by decide) ?_
        exact hret _ _ _ _ dX5_isCut_91 (by omega) (⟨rfl, Or.inl ⟨by omega, sp_cut_t (by omega)⟩⟩)
      · refine sd_aload_n C dX5_isCut_71 2 rfl rfl ?_
        refine sd_get C (by decide) rfl rfl 3 (by decide) rfl wf_X5_16 dX5_isCut_72 ?_
        refine sd_iload_n C dX5_isCut_75 1 rfl rfl ?_
        refine sd_iald C (by decide) rfl (l9.getD (j - 1) 0) ⟨by omega, by omega⟩ dX5_isCut_76 ?_
        refine sd_aload_n C dX5_isCut_77 2 rfl rfl ?_
        refine sd_get C (by decide) rfl rfl 6 (by decide) rfl wf_X5_26 dX5_isCut_78 ?_
        refine sd_iconst C dX5_isCut_81 (by decide) (fun k81 ek81 => ?_)
        refine sd_iald C (by decide) rfl (2) ⟨by omega, by omega⟩ dX5_isCut_82 ?_
        refine sd_icmp_ne C 90 dX5_isCut_83 (by decide) (fun c83 => ?_) (fun c83 => ?_)
        · refine sd_iconst C dX5_isCut_90 (by decide) (fun k90 ek90 => ?_)
          exact hret _ _ _ _ dX5_isCut_91 (by omega) (⟨rfl, Or.inr ⟨by omega, sp_cut_f (by omega)⟩⟩)
        · refine sd_iconst C dX5_isCut_86 (by decide) (fun k86 ek86 => ?_)
          refine sd_goto C 91 dX5_isCut_87 (by decide) ?_
          exact hret _ _ _ _ dX5_isCut_91 (by omega) (⟨rfl, Or.inl ⟨by omega, sp_cut_t (by omega)⟩⟩)

set_option maxRecDepth 20000 in
set_option maxHeartbeats 4000000 in
theorem c_X5_gather (l : Launch) (D : va_G) (ad : Nat → Nat) (ca : Nat → ClassId) (T : Nat → Nat) (σ : sd_Mem) (β : sp_B) (hM : sd_MR σ β) (hG : sd_RG β) (p : Nat) (hp : p < 24) (x : Int32) (hx : x.toInt = (p : Int)) : sd_Cv l yX5_gather cX5_gather 4 1 D ad ca T σ [.ref (ad 76), .int x] (fun σ' => sd_GA σ' β p ∧ ∀ a k, a ≠ 88 → a ≠ 89 → ¬ (a = 76 ∧ (k = 15 ∨ k = 16 ∨ k = 17)) → σ' a k = σ a k) := by
  refine sd_ent_v (own := RX5) (by decide) rfl (Nat.le_of_ble_eq_true rfl) (fun X C hret => ?_)
  show sd_Wd X 4 D ad ca σ [(0, .ref (ad 76)), (1, .int x)] 0 []
  have hN := sp_n_le hG
  obtain ⟨rt, hrt⟩ : ∃ rt : Nat, β 6 3 = (rt : Int) := ⟨(β 6 3).toNat, by have := hG.2.2.2.1; omega⟩
  have hru := hG.2.2.2.1
  have hrw := sp_raw_ok hG p
  have hro := sp_row_ok hG p
  refine sd_aload_n C dX5_gather_0 0 rfl rfl ?_
  refine sd_iconst C dX5_gather_1 (by decide) (fun k1 ek1 => ?_)
  refine sd_put C (ty := .int) (by decide) rfl rfl 15 (by decide) rfl (by decide +kernel) rfl rfl (Nat.le_of_ble_eq_true rfl) (fun _ => rfl) wf_X5_86 dX5_gather_2 (fun s2 es2 => ?_)
  refine sd_iconst C dX5_gather_5 (by decide) (fun k5 ek5 => ?_)
  refine sd_istore_n (lv' := [(2, .int k5), (0, .ref (ad 76)), (1, .int x)]) C dX5_gather_6 rfl (by decide) rfl ?_
  have key7 : ∀ (fu7 : Nat) (x2 : Int32) (c : Nat) (τ : sd_Mem), (x2.toInt = (c : Int)) → (c ≤ sp_n β) → (sd_g1 σ β p τ c) → (sp_n β - c < fu7) → sd_Wd X 4 D ad ca τ [(2, .int x2), (0, .ref (ad 76)), (1, .int x)] 7 [] := by
    intro fu7
    induction fu7 with
    | zero => intro x2 c τ h2 hc H hm7; exact absurd hm7 (Nat.not_lt_zero _)
    | succ fu7 ih7 =>
      intro x2 c τ h2 hc H hm7
      have hMt := sd_MR_fr (sd_g1_keep H) hM
      have hn1 := hMt.1.1
      have hgl := sp_gr_len (β 1) (sp_cnts β p) c
      obtain ⟨m, hm⟩ : ∃ m, m = (sp_gr (β 1) (sp_cnts β p) c).length := ⟨_, rfl⟩
      have hrm := H.2.1
      rw [← hm] at hrm hgl
      refine sd_iload_n C dX5_gather_7 0 rfl rfl ?_
      refine sd_aload_n C dX5_gather_8 1 rfl rfl ?_
      refine sd_get C (by decide) rfl rfl 0 (by decide) rfl wf_X5_65 dX5_gather_9 ?_
      refine sd_icmp_ge C 106 dX5_gather_12 (by decide) (fun c12 => ?_) (fun c12 => ?_)
      · refine sd_aload_n C dX5_gather_106 1 rfl rfl ?_
        refine sd_iconst C dX5_gather_107 (by decide) (fun k107 ek107 => ?_)
        refine sd_put C (ty := .boolean) (by decide) rfl rfl 17 (by decide) rfl (by decide +kernel) (sd_nb (by omega)) (sd_fb (by omega)) (Nat.le_of_ble_eq_true rfl) (fun _ => rfl) wf_X5_97 dX5_gather_108 (fun s108 es108 => ?_)
        have u3 : (s108 82 3).toInt = β 6 3 := by rw [es108, sd_st_ne (by decide)]; exact hMt.2.2.2.1 3 (by decide)
        refine sd_aload_n C dX5_gather_111 1 rfl rfl ?_
        refine sd_get C (by decide) rfl rfl 6 (by decide) rfl wf_X5_26 dX5_gather_112 ?_
        refine sd_iconst C dX5_gather_115 (by decide) (fun k115 ek115 => ?_)
        refine sd_iald C (by decide) rfl (3) ⟨by omega, by omega⟩ dX5_gather_116 ?_
        refine sd_istore_n (lv' := [(2, .int (s108 82 (3))), (0, .ref (ad 76)), (1, .int x)]) C dX5_gather_117 rfl (by decide) rfl ?_
        refine sd_iconst C dX5_gather_118 (by decide) (fun k118 ek118 => ?_)
        refine sd_istore_n (lv' := [(3, .int k118), (2, .int (s108 82 (3))), (0, .ref (ad 76)), (1, .int x)]) C dX5_gather_119 rfl (by decide) rfl ?_
        have key120 : ∀ (fu120 : Nat) (y3 : Int32) (i : Nat) (υ : sd_Mem), (y3.toInt = (i : Int)) → (i ≤ 120) → (sd_g2 σ β p υ i rt) → (121 - i < fu120) → sd_Wd X 4 D ad ca υ [(3, .int y3), (2, .int (s108 82 (3))), (0, .ref (ad 76)), (1, .int x)] 120 [] := by
          intro fu120
          induction fu120 with
          | zero => intro y3 i υ h3 hi H2 hm120; exact absurd hm120 (Nat.not_lt_zero _)
          | succ fu120 ih120 =>
            intro y3 i υ h3 hi H2 hm120
            have hMu := sd_MR_fr (sd_g2_keep H2) hM
            have u4 := hMu.2.2.2.1 4 (by decide)
            have hrm2 := H2.2.1
            have hWr : sd_MW υ β (sp_raw β p) := ⟨hMu, hG, hrm2, H2.2.2.1, hrw⟩
            have key190 : (rt = 0 ∨ (sp_raw β p).length ≤ i + rt) → sd_Wd X 4 D ad ca υ [(3, .int y3), (2, .int (s108 82 (3))), (0, .ref (ad 76)), (1, .int x)] 190 [] := by
                intro  hend
                have hq1 := sd_rng (υ 76 17)
                refine sd_aload_n C dX5_gather_190 2 rfl rfl ?_
                refine sd_aload_n C dX5_gather_191 2 rfl rfl ?_
                refine sd_get C (by decide) rfl rfl 17 (by decide) rfl wf_X5_97 dX5_gather_192 ?_
                refine sd_if_eq C 202 dX5_gather_195 (by decide) (fun c195 => ?_) (fun c195 => ?_)
                · refine sd_aload_n C dX5_gather_202 2 rfl rfl ?_
                  refine sd_get C (by decide) rfl rfl 15 (by decide) rfl wf_X5_86 dX5_gather_203 ?_
                  refine sd_put C (ty := .int) (by decide) rfl rfl 15 (by decide) rfl (by decide +kernel) rfl rfl (Nat.le_of_ble_eq_true rfl) (fun _ => rfl) wf_X5_86 dX5_gather_206 (fun s206 es206 => ?_)
                  refine sd_aload_n C dX5_gather_209 2 rfl rfl ?_
                  refine sd_iconst C dX5_gather_210 (by decide) (fun k210 ek210 => ?_)
                  refine sd_put C (ty := .int) (by decide) rfl rfl 16 (by decide) rfl (by decide +kernel) rfl rfl (Nat.le_of_ble_eq_true rfl) (fun _ => rfl) wf_X5_101 dX5_gather_211 (fun s211 es211 => ?_)
                  refine sd_iconst C dX5_gather_214 (by decide) (fun k214 ek214 => ?_)
                  refine sd_istore_n (lv' := [(3, .int k214), (2, .int (s108 82 (3))), (0, .ref (ad 76)), (1, .int x)]) C dX5_gather_215 rfl (by decide) rfl ?_
                  have key216 : ∀ (fu216 : Nat) (w3 : Int32) (j : Nat) (υ : sd_Mem), (w3.toInt = (j : Int)) → (j ≤ (sp_row β p).length) → (sd_g3 σ β p υ j) → ((sp_row β p).length - j < fu216) → sd_Wd X 4 D ad ca υ [(3, .int w3), (0, .ref (ad 76)), (1, .int x)] 216 [] := by
                    intro fu216
                    induction fu216 with
                    | zero => intro w3 j υ h3 hj H3 hm216; exact absurd hm216 (Nat.not_lt_zero _)
                    | succ fu216 ih216 =>
                      intro w3 j υ h3 hj H3 hm216
                      have hMu := sd_MR_fr (sd_g3_keep H3) hM
                      have hrm2 := H3.2.1
                      have hsn := H3.2.2.2.2.1
                      have hWj : sd_MW υ β (sp_row β p) := ⟨hMu, hG, hrm2, H3.2.2.1, hro⟩
                      have hb1 := sp_ns_le β (sp_row β p) j
                      have hb2 := sp_ns_le β (sp_row β p) (j + 1)
                      have hb3 := sp_ns_pos β (sp_row β p) j
                      refine sd_iload_n C dX5_gather_216 0 rfl rfl ?_
                      refine sd_aload_n C dX5_gather_217 1 rfl rfl ?_
                      refine sd_get C (by decide) rfl rfl 15 (by decide) rfl wf_X5_86 dX5_gather_218 ?_
                      refine sd_icmp_ge C 268 dX5_gather_221 (by decide) (fun c221 => ?_) (fun c221 => ?_)
                      · exact hret _ _ _ dX5_gather_268 (sd_g3_end (by rw [show (sp_row β p).length = j by omega]; exact H3))
                      · refine sd_aload_n C dX5_gather_224 1 rfl rfl ?_
                        refine sd_dup C dX5_gather_225 rfl ?_
                        refine sd_get C (by decide) rfl rfl 16 (by decide) rfl wf_X5_101 dX5_gather_226 ?_
                        refine sd_iload_n C dX5_gather_229 0 rfl rfl ?_
                        refine sd_if_eq C 241 dX5_gather_230 (by decide) (fun c230 => ?_) (fun c230 => ?_)
                        · refine sd_iconst C dX5_gather_241 (by decide) (fun k241 ek241 => ?_)
                          refine sd_goto C 246 dX5_gather_242 (by decide) ?_
                          refine sd_iadd C dX5_gather_246 (by omega) (fun z246 ez246 => ?_)
                          have hns : z246.toInt = (sp_ns β (sp_row β p) (j + 1) : Int) := by
                            first
                              | (rw [sp_ns_s (by left; omega)]; omega)
                              | (rw [sp_ns_s (by right; rcases h235 with q | q; exact q.2; exact absurd q.1 (by omega))]; omega)
                              | (rw [sp_ns_k (by omega) (by rcases h235 with q | q; exact absurd q.1 (by omega); exact q.2)]; omega)
                          refine sd_put C (ty := .int) (by decide) rfl rfl 16 (by decide) rfl (by decide +kernel) rfl rfl (Nat.le_of_ble_eq_true rfl) (fun _ => rfl) wf_X5_101 dX5_gather_247 (fun s247 es247 => ?_)
                          have hs8 : (s247 76 16).toInt = (sp_ns β (sp_row β p) (j + 1) : Int) := by rw [es247, sd_st_at]; exact hns
                          refine sd_aload_n C dX5_gather_250 1 rfl rfl ?_
                          refine sd_get C (by decide) rfl rfl 14 (by decide) rfl wf_X5_47 dX5_gather_251 ?_
                          refine sd_iload_n C dX5_gather_254 0 rfl rfl ?_
                          refine sd_aload_n C dX5_gather_255 1 rfl rfl ?_
                          refine sd_get C (by decide) rfl rfl 16 (by decide) rfl wf_X5_101 dX5_gather_256 ?_
                          refine sd_iconst C dX5_gather_259 (by decide) (fun k259 ek259 => ?_)
                          refine sd_isub C dX5_gather_260 (by omega) (fun z260 ez260 => ?_)
                          refine sd_iast C (by decide) (fun _ => rfl) (j) ⟨by omega, by omega⟩ dX5_gather_261 (fun s261 es261 => ?_)
                          refine sd_iinc C dX5_gather_262 0 rfl (by decide) (by decide) (by omega) (fun zz => [(3, .int zz), (0, .ref (ad 76)), (1, .int x)]) (fun _ => rfl) (fun u262 eu262 => ?_)
                          refine sd_goto C 216 dX5_gather_265 (by decide) ?_
                          exact ih216 u262 (j + 1) s261 (by omega) (by omega) (sd_g3_step H3 es247 hns es261 (by omega)) (by omega)
                        · refine sd_aload_n C dX5_gather_233 1 rfl rfl ?_
                          refine sd_iload_n C dX5_gather_234 0 rfl rfl ?_
                          refine sd_pVz C (c_X5_isCut l D ad ca T υ β (sp_row β p) hWj j (by omega) (by omega) w3 h3) mv_X5_isCut wm_X5_104 (by decide) rfl rfl (by decide) rfl rfl (Nat.le_of_ble_eq_true rfl) dX5_gather_235 (fun r235 h235 => ?_)
                          try dsimp only at h235
                          refine sd_if_eq C 245 dX5_gather_238 (by decide) (fun c238 => ?_) (fun c238 => ?_)
                          · refine sd_iconst C dX5_gather_245 (by decide) (fun k245 ek245 => ?_)
                            refine sd_iadd C dX5_gather_246 (by omega) (fun z246 ez246 => ?_)
                            have hns : z246.toInt = (sp_ns β (sp_row β p) (j + 1) : Int) := by
                              first
                                | (rw [sp_ns_s (by left; omega)]; omega)
                                | (rw [sp_ns_s (by right; rcases h235 with q | q; exact q.2; exact absurd q.1 (by omega))]; omega)
                                | (rw [sp_ns_k (by omega) (by rcases h235 with q | q; exact absurd q.1 (by omega); exact q.2)]; omega)
                            refine sd_put C (ty := .int) (by decide) rfl rfl 16 (by decide) rfl (by decide +kernel) rfl rfl (Nat.le_of_ble_eq_true rfl) (fun _ => rfl) wf_X5_101 dX5_gather_247 (fun s247 es247 => ?_)
                            have hs8 : (s247 76 16).toInt = (sp_ns β (sp_row β p) (j + 1) : Int) := by rw [es247, sd_st_at]; exact hns
                            refine sd_aload_n C dX5_gather_250 1 rfl rfl ?_
                            refine sd_get C (by decide) rfl rfl 14 (by decide) rfl wf_X5_47 dX5_gather_251 ?_
                            refine sd_iload_n C dX5_gather_254 0 rfl rfl ?_
                            refine sd_aload_n C dX5_gather_255 1 rfl rfl ?_
                            refine sd_get C (by decide) rfl rfl 16 (by decide) rfl wf_X5_101 dX5_gather_256 ?_
                            refine sd_iconst C dX5_gather_259 (by decide) (fun k259 ek259 => ?_)
                            refine sd_isub C dX5_gather_260 (by omega) (fun z260 ez260 => ?_)
                            refine sd_iast C (by decide) (fun _ => rfl) (j) ⟨by omega, by omega⟩ dX5_gather_261 (fun s261 es261 => ?_)
                            refine sd_iinc C dX5_gather_262 0 rfl (by decide) (by decide) (by omega) (fun zz => [(3, .int zz), (0, .ref (ad 76)), (1, .int x)]) (fun _ => rfl) (fun u262 eu262 => ?_)
                            refine sd_goto C 216 dX5_gather_265 (by decide) ?_
                            exact ih216 u262 (j + 1) s261 (by omega) (by omega) (sd_g3_step H3 es247 hns es261 (by omega)) (by omega)
                          · refine sd_iconst C dX5_gather_241 (by decide) (fun k241 ek241 => ?_)
                            refine sd_goto C 246 dX5_gather_242 (by decide) ?_
                            refine sd_iadd C dX5_gather_246 (by omega) (fun z246 ez246 => ?_)
                            have hns : z246.toInt = (sp_ns β (sp_row β p) (j + 1) : Int) := by
                              first
                                | (rw [sp_ns_s (by left; omega)]; omega)
                                | (rw [sp_ns_s (by right; rcases h235 with q | q; exact q.2; exact absurd q.1 (by omega))]; omega)
                                | (rw [sp_ns_k (by omega) (by rcases h235 with q | q; exact absurd q.1 (by omega); exact q.2)]; omega)
                            refine sd_put C (ty := .int) (by decide) rfl rfl 16 (by decide) rfl (by decide +kernel) rfl rfl (Nat.le_of_ble_eq_true rfl) (fun _ => rfl) wf_X5_101 dX5_gather_247 (fun s247 es247 => ?_)
                            have hs8 : (s247 76 16).toInt = (sp_ns β (sp_row β p) (j + 1) : Int) := by rw [es247, sd_st_at]; exact hns
                            refine sd_aload_n C dX5_gather_250 1 rfl rfl ?_
                            refine sd_get C (by decide) rfl rfl 14 (by decide) rfl wf_X5_47 dX5_gather_251 ?_
                            refine sd_iload_n C dX5_gather_254 0 rfl rfl ?_
                            refine sd_aload_n C dX5_gather_255 1 rfl rfl ?_
                            refine sd_get C (by decide) rfl rfl 16 (by decide) rfl wf_X5_101 dX5_gather_256 ?_
                            refine sd_iconst C dX5_gather_259 (by decide) (fun k259 ek259 => ?_)
                            refine sd_isub C dX5_gather_260 (by omega) (fun z260 ez260 => ?_)
                            refine sd_iast C (by decide) (fun _ => rfl) (j) ⟨by omega, by omega⟩ dX5_gather_261 (fun s261 es261 => ?_)
                            refine sd_iinc C dX5_gather_262 0 rfl (by decide) (by decide) (by omega) (fun zz => [(3, .int zz), (0, .ref (ad 76)), (1, .int x)]) (fun _ => rfl) (fun u262 eu262 => ?_)
                            refine sd_goto C 216 dX5_gather_265 (by decide) ?_
                            exact ih216 u262 (j + 1) s261 (by omega) (by omega) (sd_g3_step H3 es247 hns es261 (by omega)) (by omega)
                  exact sd_lv (key216 _ k214 0 s211 (by omega) (by omega) (sd_g3_0 hrt H2 hend es206 (by first | (left; exact ⟨by omega, by omega⟩) | (right; exact ⟨rfl, by omega⟩)) es211 ek210) (Nat.lt_succ_self _)) [0, 2, 3] rfl
                · refine sd_iconst C dX5_gather_198 (by decide) (fun k198 ek198 => ?_)
                  refine sd_goto C 206 dX5_gather_199 (by decide) ?_
                  refine sd_put C (ty := .int) (by decide) rfl rfl 15 (by decide) rfl (by decide +kernel) rfl rfl (Nat.le_of_ble_eq_true rfl) (fun _ => rfl) wf_X5_86 dX5_gather_206 (fun s206 es206 => ?_)
                  refine sd_aload_n C dX5_gather_209 2 rfl rfl ?_
                  refine sd_iconst C dX5_gather_210 (by decide) (fun k210 ek210 => ?_)
                  refine sd_put C (ty := .int) (by decide) rfl rfl 16 (by decide) rfl (by decide +kernel) rfl rfl (Nat.le_of_ble_eq_true rfl) (fun _ => rfl) wf_X5_101 dX5_gather_211 (fun s211 es211 => ?_)
                  refine sd_iconst C dX5_gather_214 (by decide) (fun k214 ek214 => ?_)
                  refine sd_istore_n (lv' := [(3, .int k214), (2, .int (s108 82 (3))), (0, .ref (ad 76)), (1, .int x)]) C dX5_gather_215 rfl (by decide) rfl ?_
                  have key216 : ∀ (fu216 : Nat) (w3 : Int32) (j : Nat) (υ : sd_Mem), (w3.toInt = (j : Int)) → (j ≤ (sp_row β p).length) → (sd_g3 σ β p υ j) → ((sp_row β p).length - j < fu216) → sd_Wd X 4 D ad ca υ [(3, .int w3), (0, .ref (ad 76)), (1, .int x)] 216 [] := by
                    intro fu216
                    induction fu216 with
                    | zero => intro w3 j υ h3 hj H3 hm216; exact absurd hm216 (Nat.not_lt_zero _)
                    | succ fu216 ih216 =>
                      intro w3 j υ h3 hj H3 hm216
                      have hMu := sd_MR_fr (sd_g3_keep H3) hM
                      have hrm2 := H3.2.1
                      have hsn := H3.2.2.2.2.1
                      have hWj : sd_MW υ β (sp_row β p) := ⟨hMu, hG, hrm2, H3.2.2.1, hro⟩
                      have hb1 := sp_ns_le β (sp_row β p) j
                      have hb2 := sp_ns_le β (sp_row β p) (j + 1)
                      have hb3 := sp_ns_pos β (sp_row β p) j
                      refine sd_iload_n C dX5_gather_216 0 rfl rfl ?_
                      refine sd_aload_n C dX5_gather_217 1 rfl rfl ?_
                      refine sd_get C (by decide) rfl rfl 15 (by decide) rfl wf_X5_86 dX5_gather_218 ?_
                      refine sd_icmp_ge C 268 dX5_gather_221 (by decide) (fun c221 => ?_) (fun c221 => ?_)
                      · exact hret _ _ _ dX5_gather_268 (sd_g3_end (by rw [show (sp_row β p).length = j by omega]; exact H3))
                      · refine sd_aload_n C dX5_gather_224 1 rfl rfl ?_
                        refine sd_dup C dX5_gather_225 rfl ?_
                        refine sd_get C (by decide) rfl rfl 16 (by decide) rfl wf_X5_101 dX5_gather_226 ?_
                        refine sd_iload_n C dX5_gather_229 0 rfl rfl ?_
                        refine sd_if_eq C 241 dX5_gather_230 (by decide) (fun c230 => ?_) (fun c230 => ?_)
                        · refine sd_iconst C dX5_gather_241 (by decide) (fun k241 ek241 => ?_)
                          refine sd_goto C 246 dX5_gather_242 (by decide) ?_
                          refine sd_iadd C dX5_gather_246 (by omega) (fun z246 ez246 => ?_)
                          have hns : z246.toInt = (sp_ns β (sp_row β p) (j + 1) : Int) := by
                            first
                              | (rw [sp_ns_s (by left; omega)]; omega)
                              | (rw [sp_ns_s (by right; rcases h235 with q | q; exact q.2; exact absurd q.1 (by omega))]; omega)
                              | (rw [sp_ns_k (by omega) (by rcases h235 with q | q; exact absurd q.1 (by omega); exact q.2)]; omega)
                          refine sd_put C (ty := .int) (by decide) rfl rfl 16 (by decide) rfl (by decide +kernel) rfl rfl (Nat.le_of_ble_eq_true rfl) (fun _ => rfl) wf_X5_101 dX5_gather_247 (fun s247 es247 => ?_)
                          have hs8 : (s247 76 16).toInt = (sp_ns β (sp_row β p) (j + 1) : Int) := by rw [es247, sd_st_at]; exact hns
                          refine sd_aload_n C dX5_gather_250 1 rfl rfl ?_
                          refine sd_get C (by decide) rfl rfl 14 (by decide) rfl wf_X5_47 dX5_gather_251 ?_
                          refine sd_iload_n C dX5_gather_254 0 rfl rfl ?_
                          refine sd_aload_n C dX5_gather_255 1 rfl rfl ?_
                          refine sd_get C (by decide) rfl rfl 16 (by decide) rfl wf_X5_101 dX5_gather_256 ?_
                          refine sd_iconst C dX5_gather_259 (by decide) (fun k259 ek259 => ?_)
                          refine sd_isub C dX5_gather_260 (by omega) (fun z260 ez260 => ?_)
                          refine sd_iast C (by decide) (fun _ => rfl) (j) ⟨by omega, by omega⟩ dX5_gather_261 (fun s261 es261 => ?_)
                          refine sd_iinc C dX5_gather_262 0 rfl (by decide) (by decide) (by omega) (fun zz => [(3, .int zz), (0, .ref (ad 76)), (1, .int x)]) (fun _ => rfl) (fun u262 eu262 => ?_)
                          refine sd_goto C 216 dX5_gather_265 (by decide) ?_
                          exact ih216 u262 (j + 1) s261 (by omega) (by omega) (sd_g3_step H3 es247 hns es261 (by omega)) (by omega)
                        · refine sd_aload_n C dX5_gather_233 1 rfl rfl ?_
                          refine sd_iload_n C dX5_gather_234 0 rfl rfl ?_
                          refine sd_pVz C (c_X5_isCut l D ad ca T υ β (sp_row β p) hWj j (by omega) (by omega) w3 h3) mv_X5_isCut wm_X5_104 (by decide) rfl rfl (by decide) rfl rfl (Nat.le_of_ble_eq_true rfl) dX5_gather_235 (fun r235 h235 => ?_)
                          try dsimp only at h235
                          refine sd_if_eq C 245 dX5_gather_238 (by decide) (fun c238 => ?_) (fun c238 => ?_)
                          · refine sd_iconst C dX5_gather_245 (by decide) (fun k245 ek245 => ?_)
                            refine sd_iadd C dX5_gather_246 (by omega) (fun z246 ez246 => ?_)
                            have hns : z246.toInt = (sp_ns β (sp_row β p) (j + 1) : Int) := by
                              first
                                | (rw [sp_ns_s (by left; omega)]; omega)
                                | (rw [sp_ns_s (by right; rcases h235 with q | q; exact q.2; exact absurd q.1 (by omega))]; omega)
                                | (rw [sp_ns_k (by omega) (by rcases h235 with q | q; exact absurd q.1 (by omega); exact q.2)]; omega)
                            refine sd_put C (ty := .int) (by decide) rfl rfl 16 (by decide) rfl (by decide +kernel) rfl rfl (Nat.le_of_ble_eq_true rfl) (fun _ => rfl) wf_X5_101 dX5_gather_247 (fun s247 es247 => ?_)
                            have hs8 : (s247 76 16).toInt = (sp_ns β (sp_row β p) (j + 1) : Int) := by rw [es247, sd_st_at]; exact hns
                            refine sd_aload_n C dX5_gather_250 1 rfl rfl ?_
                            refine sd_get C (by decide) rfl rfl 14 (by decide) rfl wf_X5_47 dX5_gather_251 ?_
                            refine sd_iload_n C dX5_gather_254 0 rfl rfl ?_
                            refine sd_aload_n C dX5_gather_255 1 rfl rfl ?_
                            refine sd_get C (by decide) rfl rfl 16 (by decide) rfl wf_X5_101 dX5_gather_256 ?_
                            refine sd_iconst C dX5_gather_259 (by decide) (fun k259 ek259 => ?_)
                            refine sd_isub C dX5_gather_260 (by omega) (fun z260 ez260 => ?_)
                            refine sd_iast C (by decide) (fun _ => rfl) (j) ⟨by omega, by omega⟩ dX5_gather_261 (fun s261 es261 => ?_)
                            refine sd_iinc C dX5_gather_262 0 rfl (by decide) (by decide) (by omega) (fun zz => [(3, .int zz), (0, .ref (ad 76)), (1, .int x)]) (fun _ => rfl) (fun u262 eu262 => ?_)
                            refine sd_goto C 216 dX5_gather_265 (by decide) ?_
                            exact ih216 u262 (j + 1) s261 (by omega) (by omega) (sd_g3_step H3 es247 hns es261 (by omega)) (by omega)
                          · refine sd_iconst C dX5_gather_241 (by decide) (fun k241 ek241 => ?_)
                            refine sd_goto C 246 dX5_gather_242 (by decide) ?_
                            refine sd_iadd C dX5_gather_246 (by omega) (fun z246 ez246 => ?_)
                            have hns : z246.toInt = (sp_ns β (sp_row β p) (j + 1) : Int) := by
                              first
                                | (rw [sp_ns_s (by left; omega)]; omega)
                                | (rw [sp_ns_s (by right; rcases h235 with q | q; exact q.2; exact absurd q.1 (by omega))]; omega)
                                | (rw [sp_ns_k (by omega) (by rcases h235 with q | q; exact absurd q.1 (by omega); exact q.2)]; omega)
                            refine sd_put C (ty := .int) (by decide) rfl rfl 16 (by decide) rfl (by decide +kernel) rfl rfl (Nat.le_of_ble_eq_true rfl) (fun _ => rfl) wf_X5_101 dX5_gather_247 (fun s247 es247 => ?_)
                            have hs8 : (s247 76 16).toInt = (sp_ns β (sp_row β p) (j + 1) : Int) := by rw [es247, sd_st_at]; exact hns
                            refine sd_aload_n C dX5_gather_250 1 rfl rfl ?_
                            refine sd_get C (by decide) rfl rfl 14 (by decide) rfl wf_X5_47 dX5_gather_251 ?_
                            refine sd_iload_n C dX5_gather_254 0 rfl rfl ?_
                            refine sd_aload_n C dX5_gather_255 1 rfl rfl ?_
                            refine sd_get C (by decide) rfl rfl 16 (by decide) rfl wf_X5_101 dX5_gather_256 ?_
                            refine sd_iconst C dX5_gather_259 (by decide) (fun k259 ek259 => ?_)
                            refine sd_isub C dX5_gather_260 (by omega) (fun z260 ez260 => ?_)
                            refine sd_iast C (by decide) (fun _ => rfl) (j) ⟨by omega, by omega⟩ dX5_gather_261 (fun s261 es261 => ?_)
                            refine sd_iinc C dX5_gather_262 0 rfl (by decide) (by decide) (by omega) (fun zz => [(3, .int zz), (0, .ref (ad 76)), (1, .int x)]) (fun _ => rfl) (fun u262 eu262 => ?_)
                            refine sd_goto C 216 dX5_gather_265 (by decide) ?_
                            exact ih216 u262 (j + 1) s261 (by omega) (by omega) (sd_g3_step H3 es247 hns es261 (by omega)) (by omega)
                  exact sd_lv (key216 _ k214 0 s211 (by omega) (by omega) (sd_g3_0 hrt H2 hend es206 (by first | (left; exact ⟨by omega, by omega⟩) | (right; exact ⟨rfl, by omega⟩)) es211 ek210) (Nat.lt_succ_self _)) [0, 2, 3] rfl
            
            refine sd_iload_n C dX5_gather_120 1 rfl rfl ?_
            refine sd_if_le C 190 dX5_gather_121 (by decide) (fun c121 => ?_) (fun c121 => ?_)
            · exact key190  (by omega)
            · refine sd_iload_n C dX5_gather_124 0 rfl rfl ?_
              refine sd_iload_n C dX5_gather_125 1 rfl rfl ?_
              refine sd_iadd C dX5_gather_126 (by omega) (fun z126 ez126 => ?_)
              refine sd_aload_n C dX5_gather_127 2 rfl rfl ?_
              refine sd_get C (by decide) rfl rfl 15 (by decide) rfl wf_X5_86 dX5_gather_128 ?_
              refine sd_icmp_ge C 190 dX5_gather_131 (by decide) (fun c131 => ?_) (fun c131 => ?_)
              · exact key190  (by omega)
              · refine sd_aload_n C dX5_gather_134 2 rfl rfl ?_
                refine sd_aload_n C dX5_gather_135 2 rfl rfl ?_
                refine sd_get C (by decide) rfl rfl 17 (by decide) rfl wf_X5_97 dX5_gather_136 ?_
                refine sd_if_ne C 176 dX5_gather_139 (by decide) (fun c139 => ?_) (fun c139 => ?_)
                · refine sd_iconst C dX5_gather_176 (by decide) (fun k176 ek176 => ?_)
                  refine sd_goto C 181 dX5_gather_177 (by decide) ?_
                  refine sd_put C (ty := .boolean) (by decide) rfl rfl 17 (by decide) rfl (by decide +kernel) (sd_nb (by omega)) (sd_fb (by omega)) (Nat.le_of_ble_eq_true rfl) (fun _ => rfl) wf_X5_97 dX5_gather_181 (fun s181 es181 => ?_)
                  refine sd_iinc C dX5_gather_184 0 rfl (by decide) (by decide) (by omega) (fun zz => [(3, .int zz), (2, .int (s108 82 (3))), (0, .ref (ad 76)), (1, .int x)]) (fun _ => rfl) (fun u184 eu184 => ?_)
                  refine sd_goto C 120 dX5_gather_187 (by decide) ?_
                  exact ih120 u184 (i + 1) s181 (by omega) (by omega) (sd_g2_step H2 es181 (by first | (left; exact ⟨by omega, by rcases H2.2.2.2 with q | q; exact q.2; exact absurd q.1 (by omega)⟩) | (left; exact ⟨by omega, sp_quick_true (i := i) hrt (by omega) (by omega) (by omega)⟩) | (right; exact ⟨by omega, by omega, by omega⟩))) (by omega)
                · have t1 := hWr.at (j := i) (by omega)
                  have t2 := hWr.at (j := i + rt) (by omega)
                  refine sd_aload_n C dX5_gather_142 2 rfl rfl ?_
                  refine sd_get C (by decide) rfl rfl 1 (by decide) rfl wf_X5_7 dX5_gather_143 ?_
                  refine sd_aload_n C dX5_gather_146 2 rfl rfl ?_
                  refine sd_get C (by decide) rfl rfl 13 (by decide) rfl wf_X5_44 dX5_gather_147 ?_
                  refine sd_iload_n C dX5_gather_150 0 rfl rfl ?_
                  refine sd_iload_n C dX5_gather_151 1 rfl rfl ?_
                  refine sd_iadd C dX5_gather_152 (by omega) (fun z152 ez152 => ?_)
                  refine sd_iald C (by decide) rfl ((i + rt)) ⟨by omega, by omega⟩ dX5_gather_153 ?_
                  refine sd_iald C (by decide) rfl ((sp_raw β p).getD (i + rt) 0) ⟨by omega, by omega⟩ dX5_gather_154 ?_
                  refine sd_aload_n C dX5_gather_155 2 rfl rfl ?_
                  refine sd_get C (by decide) rfl rfl 1 (by decide) rfl wf_X5_7 dX5_gather_156 ?_
                  refine sd_aload_n C dX5_gather_159 2 rfl rfl ?_
                  refine sd_get C (by decide) rfl rfl 13 (by decide) rfl wf_X5_44 dX5_gather_160 ?_
                  refine sd_iload_n C dX5_gather_163 0 rfl rfl ?_
                  refine sd_iald C (by decide) rfl (i) ⟨by omega, by omega⟩ dX5_gather_164 ?_
                  refine sd_iald C (by decide) rfl ((sp_raw β p).getD i 0) ⟨by omega, by omega⟩ dX5_gather_165 ?_
                  refine sd_isub C dX5_gather_166 (by omega) (fun z166 ez166 => ?_)
                  refine sd_aload_n C dX5_gather_167 2 rfl rfl ?_
                  refine sd_get C (by decide) rfl rfl 6 (by decide) rfl wf_X5_26 dX5_gather_168 ?_
                  refine sd_iconst C dX5_gather_171 (by decide) (fun k171 ek171 => ?_)
                  refine sd_iald C (by decide) rfl (4) ⟨by omega, by omega⟩ dX5_gather_172 ?_
                  refine sd_icmp_ge C 180 dX5_gather_173 (by decide) (fun c173 => ?_) (fun c173 => ?_)
                  · refine sd_iconst C dX5_gather_180 (by decide) (fun k180 ek180 => ?_)
                    refine sd_put C (ty := .boolean) (by decide) rfl rfl 17 (by decide) rfl (by decide +kernel) (sd_nb (by omega)) (sd_fb (by omega)) (Nat.le_of_ble_eq_true rfl) (fun _ => rfl) wf_X5_97 dX5_gather_181 (fun s181 es181 => ?_)
                    refine sd_iinc C dX5_gather_184 0 rfl (by decide) (by decide) (by omega) (fun zz => [(3, .int zz), (2, .int (s108 82 (3))), (0, .ref (ad 76)), (1, .int x)]) (fun _ => rfl) (fun u184 eu184 => ?_)
                    refine sd_goto C 120 dX5_gather_187 (by decide) ?_
                    exact ih120 u184 (i + 1) s181 (by omega) (by omega) (sd_g2_step H2 es181 (by first | (left; exact ⟨by omega, by rcases H2.2.2.2 with q | q; exact q.2; exact absurd q.1 (by omega)⟩) | (left; exact ⟨by omega, sp_quick_true (i := i) hrt (by omega) (by omega) (by omega)⟩) | (right; exact ⟨by omega, by omega, by omega⟩))) (by omega)
                  · refine sd_iconst C dX5_gather_176 (by decide) (fun k176 ek176 => ?_)
                    refine sd_goto C 181 dX5_gather_177 (by decide) ?_
                    refine sd_put C (ty := .boolean) (by decide) rfl rfl 17 (by decide) rfl (by decide +kernel) (sd_nb (by omega)) (sd_fb (by omega)) (Nat.le_of_ble_eq_true rfl) (fun _ => rfl) wf_X5_97 dX5_gather_181 (fun s181 es181 => ?_)
                    refine sd_iinc C dX5_gather_184 0 rfl (by decide) (by decide) (by omega) (fun zz => [(3, .int zz), (2, .int (s108 82 (3))), (0, .ref (ad 76)), (1, .int x)]) (fun _ => rfl) (fun u184 eu184 => ?_)
                    refine sd_goto C 120 dX5_gather_187 (by decide) ?_
                    exact ih120 u184 (i + 1) s181 (by omega) (by omega) (sd_g2_step H2 es181 (by first | (left; exact ⟨by omega, by rcases H2.2.2.2 with q | q; exact q.2; exact absurd q.1 (by omega)⟩) | (left; exact ⟨by omega, sp_quick_true (i := i) hrt (by omega) (by omega) (by omega)⟩) | (right; exact ⟨by omega, by omega, by omega⟩))) (by omega)
        exact key120 _ k118 0 s108 (by omega) (by omega) (sd_g2_0 (by rw [show sp_n β = c by omega]; exact H) es108 ek107) (Nat.lt_succ_self _)
      · have hwc := hMt.2.1 c (by omega)
        have hgc := hG.2.1 c (by omega)
        refine sd_aload_n C dX5_gather_15 1 rfl rfl ?_
        refine sd_aload_n C dX5_gather_16 1 rfl rfl ?_
        refine sd_get C (by decide) rfl rfl 2 (by decide) rfl wf_X5_13 dX5_gather_17 ?_
        refine sd_iload_n C dX5_gather_20 0 rfl rfl ?_
        refine sd_iald C (by decide) rfl (c) ⟨by omega, by omega⟩ dX5_gather_21 ?_
        refine sd_pVi C (c_X5_personOf l D ad ca T τ β hMt hG (β 2 c).toNat (by omega) (τ 78 c) (by omega)) mv_X5_personOf wm_X5_89 (by decide) rfl rfl (by decide) rfl rfl (Nat.le_of_ble_eq_true rfl) dX5_gather_22 (fun r22 h22 => ?_)
        try dsimp only at h22
        refine sd_iload_n C dX5_gather_25 2 rfl rfl ?_
        refine sd_icmp_ne C 100 dX5_gather_26 (by decide) (fun c26 => ?_) (fun c26 => ?_)
        · refine sd_iinc C dX5_gather_100 0 rfl (by decide) (by decide) (by omega) (fun zz => [(2, .int zz), (0, .ref (ad 76)), (1, .int x)]) (fun _ => rfl) (fun u100 eu100 => ?_)
          refine sd_goto C 7 dX5_gather_103 (by decide) ?_
          exact ih7 u100 (c + 1) τ (by omega) (by omega) (sd_g1_skip H (by unfold sp_cnts sp_mine; first | (rw [decide_eq_false (by omega)]; rfl) | (rw [decide_eq_false (p := β 4 c = 0) (by omega)]; simp))) (by omega)
        · refine sd_aload_n C dX5_gather_29 1 rfl rfl ?_
          refine sd_get C (by decide) rfl rfl 4 (by decide) rfl wf_X5_19 dX5_gather_30 ?_
          refine sd_iload_n C dX5_gather_33 0 rfl rfl ?_
          refine sd_zald C (by decide) rfl (c) ⟨by omega, by omega⟩ dX5_gather_34 ?_
          refine sd_if_ne C 100 dX5_gather_35 (by decide) (fun c35 => ?_) (fun c35 => ?_)
          · refine sd_iinc C dX5_gather_100 0 rfl (by decide) (by decide) (by omega) (fun zz => [(2, .int zz), (0, .ref (ad 76)), (1, .int x)]) (fun _ => rfl) (fun u100 eu100 => ?_)
            refine sd_goto C 7 dX5_gather_103 (by decide) ?_
            exact ih7 u100 (c + 1) τ (by omega) (by omega) (sd_g1_skip H (by unfold sp_cnts sp_mine; first | (rw [decide_eq_false (by omega)]; rfl) | (rw [decide_eq_false (p := β 4 c = 0) (by omega)]; simp))) (by omega)
          · have hct : sp_cnts β p c = true := by
              unfold sp_cnts sp_mine
              rw [decide_eq_true (by omega), decide_eq_true (by omega)]; rfl
            refine sd_aload_n C dX5_gather_38 1 rfl rfl ?_
            refine sd_get C (by decide) rfl rfl 15 (by decide) rfl wf_X5_86 dX5_gather_39 ?_
            refine sd_istore_n (lv' := [(3, .int (τ 76 15)), (2, .int x2), (0, .ref (ad 76)), (1, .int x)]) C dX5_gather_42 rfl (by decide) rfl ?_
            have key43 : ∀ (fu43 : Nat) (x3 : Int32) (a : Nat) (υ : sd_Mem), (x3.toInt = (a : Int)) → (a ≤ m) → (∀ i k, i ≠ 88 → υ i k = τ i k) → (∀ j, j < a → υ 88 j = τ 88 j) → (∀ j, a < j → j ≤ m → υ 88 j = τ 88 (j - 1)) → (∀ j, a ≤ j → j < m → β 1 c < β 1 ((sp_gr (β 1) (sp_cnts β p) c).getD j 0)) → (a < fu43) → sd_Wd X 4 D ad ca υ [(3, .int x3), (2, .int x2), (0, .ref (ad 76)), (1, .int x)] 43 [] := by
              intro fu43
              induction fu43 with
              | zero => intro x3 a υ h3 ha fr hlo hhi hgt hm43; exact absurd hm43 (Nat.not_lt_zero _)
              | succ fu43 ih43 =>
                intro x3 a υ h3 ha fr hlo hhi hgt hm43
                have hMu : sd_MR υ β := sd_MR_fr (fun i k q1 q2 => fr i k (by omega)) hMt
                have hrm2 : (υ 76 15).toInt = (m : Int) := by rw [fr 76 15 (by decide)]; exact hrm
                have key83 : (a = 0 ∨ β 1 ((sp_gr (β 1) (sp_cnts β p) c).getD (a - 1) 0) ≤ β 1 c) → sd_Wd X 4 D ad ca υ [(3, .int x3), (2, .int x2), (0, .ref (ad 76)), (1, .int x)] 83 [] := by
                    intro  hstop
                    refine sd_aload_n C dX5_gather_83 2 rfl rfl ?_
                    refine sd_get C (by decide) rfl rfl 13 (by decide) rfl wf_X5_44 dX5_gather_84 ?_
                    refine sd_iload_n C dX5_gather_87 0 rfl rfl ?_
                    refine sd_iload_n C dX5_gather_88 1 rfl rfl ?_
                    refine sd_iast C (by decide) (fun _ => rfl) (a) ⟨by omega, by omega⟩ dX5_gather_89 (fun s89 es89 => ?_)
                    refine sd_aload_n C dX5_gather_90 2 rfl rfl ?_
                    refine sd_dup C dX5_gather_91 rfl ?_
                    refine sd_get C (by decide) rfl rfl 15 (by decide) rfl wf_X5_86 dX5_gather_92 ?_
                    refine sd_iconst C dX5_gather_95 (by decide) (fun k95 ek95 => ?_)
                    refine sd_iadd C dX5_gather_96 (by rw [show (s89 76 15) = υ 76 15 by rw [es89, sd_st_ne (by decide)]]; omega) (fun z96 ez96 => ?_)
                    refine sd_put C (ty := .int) (by decide) rfl rfl 15 (by decide) rfl (by decide +kernel) rfl rfl (Nat.le_of_ble_eq_true rfl) (fun _ => rfl) wf_X5_86 dX5_gather_97 (fun s97 es97 => ?_)
                    rw [show (s89 76 15) = υ 76 15 by rw [es89, sd_st_ne (by decide)]] at ez96
                    refine sd_iinc C dX5_gather_100 1 rfl (by decide) (by decide) (by omega) (fun zz => [(2, .int zz), (3, .int x3), (0, .ref (ad 76)), (1, .int x)]) (fun _ => rfl) (fun u100 eu100 => ?_)
                    refine sd_goto C 7 dX5_gather_103 (by decide) ?_
                    exact sd_lv (ih7 u100 (c + 1) s97 (by omega) (by omega) (sd_g1_ins H hct hm ha fr hlo hhi hgt hstop es89 h2 es97 (by omega)) (by omega)) [0, 2, 3] rfl
                refine sd_iload_n C dX5_gather_43 0 rfl rfl ?_
                refine sd_if_le C 83 dX5_gather_44 (by decide) (fun c44 => ?_) (fun c44 => ?_)
                · exact key83  (by first | (left; omega) | (right; rcases h57 with w | w; exact absurd w.1 (by omega); exact w.2))
                · have q1 := hlo (a - 1) (by omega)
                  have q2 := H.2.2 (a - 1) (by omega)
                  rw [← q1] at q2
                  have q3 : (sp_gr (β 1) (sp_cnts β p) c).getD (a - 1) 0 < c := sp_gr_mem (sp_getD_mem (by omega))
                  refine sd_aload_n C dX5_gather_47 2 rfl rfl ?_
                  refine sd_iload_n C dX5_gather_48 1 rfl rfl ?_
                  refine sd_aload_n C dX5_gather_49 2 rfl rfl ?_
                  refine sd_get C (by decide) rfl rfl 13 (by decide) rfl wf_X5_44 dX5_gather_50 ?_
                  refine sd_iload_n C dX5_gather_53 0 rfl rfl ?_
                  refine sd_iconst C dX5_gather_54 (by decide) (fun k54 ek54 => ?_)
                  refine sd_isub C dX5_gather_55 (by omega) (fun z55 ez55 => ?_)
                  refine sd_iald C (by decide) rfl ((a - 1)) ⟨by omega, by omega⟩ dX5_gather_56 ?_
                  refine sd_pVz C (c_X5_isAhead l D ad ca T υ β hMu hG c ((sp_gr (β 1) (sp_cnts β p) c).getD (a - 1) 0) (by omega) (by omega) x2 (υ 88 (a - 1)) (by omega) (by omega)) mv_X5_isAhead wm_X5_93 (by decide) rfl rfl (by decide) rfl rfl (Nat.le_of_ble_eq_true rfl) dX5_gather_57 (fun r57 h57 => ?_)
                  try dsimp only at h57
                  refine sd_if_eq C 83 dX5_gather_60 (by decide) (fun c60 => ?_) (fun c60 => ?_)
                  · exact key83  (by first | (left; omega) | (right; rcases h57 with w | w; exact absurd w.1 (by omega); exact w.2))
                  · refine sd_aload_n C dX5_gather_63 2 rfl rfl ?_
                    refine sd_get C (by decide) rfl rfl 13 (by decide) rfl wf_X5_44 dX5_gather_64 ?_
                    refine sd_iload_n C dX5_gather_67 0 rfl rfl ?_
                    refine sd_aload_n C dX5_gather_68 2 rfl rfl ?_
                    refine sd_get C (by decide) rfl rfl 13 (by decide) rfl wf_X5_44 dX5_gather_69 ?_
                    refine sd_iload_n C dX5_gather_72 0 rfl rfl ?_
                    refine sd_iconst C dX5_gather_73 (by decide) (fun k73 ek73 => ?_)
                    refine sd_isub C dX5_gather_74 (by omega) (fun z74 ez74 => ?_)
                    refine sd_iald C (by decide) rfl ((a - 1)) ⟨by omega, by omega⟩ dX5_gather_75 ?_
                    refine sd_iast C (by decide) (fun _ => rfl) (a) ⟨by omega, by omega⟩ dX5_gather_76 (fun s76 es76 => ?_)
                    refine sd_iinc C dX5_gather_77 0 rfl (by decide) (by decide) (by omega) (fun zz => [(3, .int zz), (2, .int x2), (0, .ref (ad 76)), (1, .int x)]) (fun _ => rfl) (fun u77 eu77 => ?_)
                    refine sd_goto C 43 dX5_gather_80 (by decide) ?_
                    exact ih43 u77 (a - 1) s76 (by omega) (by omega) (fun i k q => by rw [es76, sd_st_ne q]; exact fr i k q) (fun j q => by rw [es76, sd_st_nk (by omega)]; exact hlo j (by omega)) (fun j q1 q2 => by
                          by_cases q : j = a
                          · subst q; rw [es76, sd_st_at]; exact hlo (j - 1) (by omega)
                          · rw [es76, sd_st_nk q]; exact hhi j (by omega) q2) (fun j q1 q2 => by
                          by_cases q : j = a - 1
                          · subst q; rcases h57 with w | w
                            · exact w.2
                            · exact absurd w.1 (by omega)
                          · exact hgt j (by omega) q2) (by omega)
            exact key43 _ (τ 76 15) m τ (by omega) (Nat.le_refl m) (fun _ _ _ => rfl) (fun _ _ => rfl) (fun j q1 q2 => by omega) (fun j q1 q2 => by omega) (Nat.lt_succ_self _)
  exact key7 _ k5 0 s2 (by omega) (by omega) (sd_g1_0 es2 ek1) (Nat.lt_succ_self _)

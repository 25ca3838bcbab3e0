theorem sp_b1 {b : Bool} (h : b = true) : sp_b b = 1 := by rw [h]; rfl
theorem sp_b0 {b : Bool} (h : b = false) : sp_b b = 0 := by rw [h]; rfl
theorem sp_sum_s {f : Nat → Int} {n : Nat} {v : Int} (h : f n = v) : sp_sum f (n + 1) = sp_sum f n + v := by rw [sp_sum, h]
theorem sp_pl_rng (l : List Nat) (c : Nat) : -1 ≤ sp_pl l c := by unfold sp_pl; split <;> omega
theorem sd_t0_lo {x : Int} (h0 : 0 ≤ x) (h1 : x < 6) : (sd_t0 x.toNat).toInt = sp_lo x := by
  have hx : x = 0 ∨ x = 1 ∨ x = 2 ∨ x = 3 ∨ x = 4 ∨ x = 5 := by omega
  rcases hx with rfl | rfl | rfl | rfl | rfl | rfl <;> rfl
theorem sd_t1_hi {x : Int} (h0 : 0 ≤ x) (h1 : x < 6) : (sd_t1 x.toNat).toInt = sp_hi x := by
  have hx : x = 0 ∨ x = 1 ∨ x = 2 ∨ x = 3 ∨ x = 4 ∨ x = 5 := by omega
  rcases hx with rfl | rfl | rfl | rfl | rfl | rfl <;> rfl
theorem sd_CS.at {σ : sd_Mem} {β : sp_B} (h : sd_CS σ β) {q : Nat} (hq : q < 24) {j : Nat} (hj : j < (sp_row β q).length) : (σ 11 ((sp_row β q).getD j 0)).toInt = (sp_ns β (sp_row β q) (j + 1) : Int) - 1 ∧ (σ 10 ((sp_row β q).getD j 0)).toInt = (j : Int) := by
  obtain ⟨hC, hG, hB, h1, h2⟩ := h
  have hN := (sp_n_le hG).1
  obtain ⟨a1, a2, -⟩ := sp_raw_mem (sp_row_sub (sp_getD_mem hj))
  rw [sp_mine_per hG (by omega)] at a2
  simp only [decide_eq_true_eq] at a2
  obtain ⟨g1, g2⟩ := h2 _ a1
  rw [← a2, sp_pl_at (sp_row_nodup β q) hj] at g1
  rw [← a2, sp_si_at (sp_row_nodup β q) hj] at g2
  exact ⟨g2, g1⟩

set_option maxRecDepth 20000 in
set_option maxHeartbeats 4000000 in
theorem c_X4_click (l : Launch) (D : va_G) (ad : Nat → Nat) (ca : Nat → ClassId) (T : Nat → Nat) (σ : sd_Mem) (β : sp_B) (hS : sd_CS σ β) (x1 x2 x3 : Int32) : sd_Ci l yX4_click cX4_click 5 5 D ad ca T σ [.ref (ad 0), .int x1, .int x2, .int x3] (fun r σ' => r.toInt = an_click β x1.toInt x2.toInt x3.toInt ∧ sd_CS σ' (up_click β x1.toInt x2.toInt x3.toInt) ∧ sd_hi σ σ') := by
  refine sd_ent_i (own := RX4) (by decide) rfl (Nat.le_of_ble_eq_true rfl) (fun X C hret => ?_)
  show sd_Wd X 5 D ad ca σ [(0, .ref (ad 0)), (1, .int x1), (2, .int x2), (3, .int x3)] 0 []
  obtain ⟨hC, hG, hB, hL⟩ := id hS
  have hN := sp_n_le hG
  have hn := hC.1.1
  refine sd_iload_n C dX4_click_0 2 rfl rfl ?_
  refine sd_pSz C (c_X4_isWho l D ad ca T σ x2) mv_X4_isWho wm_X4_56 (by decide) rfl rfl (Nat.le_of_ble_eq_true rfl) dX4_click_1 (fun r1 h1 => ?_)
  try dsimp only at h1
  refine sd_if_ne C 11 dX4_click_4 (by decide) (fun c4 => ?_) (fun c4 => ?_)
  · refine sd_iload_n C dX4_click_11 1 rfl rfl ?_
    refine sd_if_lt C 28 dX4_click_12 (by decide) (fun c12 => ?_) (fun c12 => ?_)
    · refine sd_sipush C dX4_click_28 (by decide) (fun k28 ek28 => ?_)
      exact hret _ _ _ _ dX4_click_31 (⟨by
          unfold an_click
          repeat' split
          all_goals omega, by
          unfold up_click
          rw [if_pos (by omega)]; exact hS, fun _ _ _ => rfl⟩)
    · refine sd_iload_n C dX4_click_15 1 rfl rfl ?_
      refine sd_ldc C dX4_click_16 wk_X4_60 (n := 200000) (by decide) (fun k16 ek16 => ?_)
      refine sd_icmp_gt C 28 dX4_click_18 (by decide) (fun c18 => ?_) (fun c18 => ?_)
      · refine sd_sipush C dX4_click_28 (by decide) (fun k28 ek28 => ?_)
        exact hret _ _ _ _ dX4_click_31 (⟨by
            unfold an_click
            repeat' split
            all_goals omega, by
            unfold up_click
            rw [if_pos (by omega)]; exact hS, fun _ _ _ => rfl⟩)
      · refine sd_iload_n C dX4_click_21 3 rfl rfl ?_
        refine sd_pSz C (c_X4_isSort l D ad ca T σ x3) mv_X4_isSort wm_X4_61 (by decide) rfl rfl (Nat.le_of_ble_eq_true rfl) dX4_click_22 (fun r22 h22 => ?_)
        try dsimp only at h22
        refine sd_if_ne C 32 dX4_click_25 (by decide) (fun c25 => ?_) (fun c25 => ?_)
        · refine sd_aload_n C dX4_click_32 0 rfl rfl ?_
          refine sd_get C (by decide) rfl rfl 0 (by decide) rfl wf_X4_10 dX4_click_33 ?_
          refine sd_iload_n C dX4_click_36 1 rfl rfl ?_
          refine sd_iload_n C dX4_click_37 2 rfl rfl ?_
          refine sd_iload_n C dX4_click_38 3 rfl rfl ?_
          have hb6 : ∀ j, j < sp_n β → 0 ≤ (σ 6 j).toInt ∧ (σ 6 j).toInt < (sp_n β : Int) := by
            intro j hj
            have q1 := hB j hj
            have q2 : (sp_srt (β 1) (sp_n β)).getD j 0 < sp_n β := sp_srt_mem.mp (sp_getD_mem (by rw [sp_srt_len]; exact hj))
            omega
          refine sd_callVi C (c_X0_add l D ad ca T σ (sp_n β) x1 x2 x3 (by omega) (by omega) hb6) mv_X0_add wm_X4_64 (by decide) rfl rfl (by decide) rfl rfl (Nat.le_of_ble_eq_true rfl) dX4_click_39 (fun r39 s39 h39 => ?_)
          try dsimp only at h39
          refine sd_istore (lv' := [(4, .int r39), (0, .ref (ad 0)), (1, .int x1), (2, .int x2), (3, .int x3)]) C dX4_click_42 (by decide) rfl ?_
          refine sd_iload C dX4_click_44 0 rfl ?_
          refine sd_sipush C dX4_click_46 (by decide) (fun k46 ek46 => ?_)
          refine sd_icmp_eq C 56 dX4_click_49 (by decide) (fun c49 => ?_) (fun c49 => ?_)
          · refine sd_iload C dX4_click_56 0 rfl ?_
            exact hret _ _ _ _ dX4_click_58 (by
                rcases h39 with ⟨g1, g2, g3⟩ | ⟨g1, g2, -⟩
                · rw [g3]
                  refine ⟨?_, ?_, fun _ _ _ => rfl⟩
                  · unfold an_click
                    repeat' split
                    all_goals omega
                  · unfold up_click
                    rw [if_pos (by omega)]; exact hS
                · exfalso; omega)
          · rcases h39 with ⟨g1, g2, g3⟩ | ⟨g1, g2, g3, g4, g5, g6, g7, a, g8, g9, g10, g11, g12, g13⟩
            · exfalso; omega
            have hC9 := sd_CR_click hC hG g3 g4 g5 g6 g7
            have hG9 : sd_RG (b_click β x1.toInt x2.toInt x3.toInt) := sd_RG_click hG g1 (by omega) (by omega) (by omega)
            have hB9 : sd_BT s39 (b_click β x1.toInt x2.toInt x3.toInt) := sd_BT_click hC hG hB g1 g8 g9 g10 g11 g12 g13
            refine sd_aload_n C dX4_click_52 1 rfl rfl ?_
            refine sd_callVv C (c_X4_layRows l D ad ca T s39 (b_click β x1.toInt x2.toInt x3.toInt) hC9 hG9 hB9) mv_X4_layRows wm_X4_68 (by decide) rfl rfl (by decide) rfl rfl (Nat.le_of_ble_eq_true rfl) dX4_click_53 (fun s53 h53 => ?_)
            try dsimp only at h53
            refine sd_iload C dX4_click_56 0 rfl ?_
            exact hret _ _ _ _ dX4_click_58 (by
                refine ⟨?_, ?_, ?_⟩
                · unfold an_click
                  repeat' split
                  all_goals omega
                · unfold up_click
                  rw [if_neg (by omega)]
                  exact sd_CS_lay hC9 hG9 hB9 h53
                · exact sd_hi_lay (fun i k hi => g3 i k (by omega) (by omega) (by omega) (by omega) (by omega)) h53.1)
        · refine sd_sipush C dX4_click_28 (by decide) (fun k28 ek28 => ?_)
          exact hret _ _ _ _ dX4_click_31 (⟨by
              unfold an_click
              repeat' split
              all_goals omega, by
              unfold up_click
              rw [if_pos (by omega)]; exact hS, fun _ _ _ => rfl⟩)
  · refine sd_sipush C dX4_click_7 (by decide) (fun k7 ek7 => ?_)
    exact hret _ _ _ _ dX4_click_10 (⟨by
        unfold an_click
        repeat' split
        all_goals omega, by
        unfold up_click
        rw [if_pos (by omega)]; exact hS, fun _ _ _ => rfl⟩)

set_option maxRecDepth 20000 in
set_option maxHeartbeats 4000000 in
theorem c_X4_strike (l : Launch) (D : va_G) (ad : Nat → Nat) (ca : Nat → ClassId) (T : Nat → Nat) (σ : sd_Mem) (β : sp_B) (hS : sd_CS σ β) (x1 x2 : Int32) (hx2 : x2.toInt = 0 ∨ x2.toInt = 1) : sd_Ci l yX4_strike cX4_strike 4 5 D ad ca T σ [.ref (ad 0), .int x1, .int x2] (fun r σ' => r.toInt = an_strike β x1.toInt ∧ sd_CS σ' (up_strike β x1.toInt x2.toInt) ∧ sd_hi σ σ') := by
  refine sd_ent_i (own := RX4) (by decide) rfl (Nat.le_of_ble_eq_true rfl) (fun X C hret => ?_)
  show sd_Wd X 4 D ad ca σ [(0, .ref (ad 0)), (1, .int x1), (2, .int x2)] 0 []
  obtain ⟨hC, hG, hB, hL⟩ := id hS
  have hN := sp_n_le hG
  have hn := hC.1.1
  refine sd_aload_n C dX4_strike_0 0 rfl rfl ?_
  refine sd_get C (by decide) rfl rfl 0 (by decide) rfl wf_X4_10 dX4_strike_1 ?_
  refine sd_iload_n C dX4_strike_4 1 rfl rfl ?_
  refine sd_pVz C (c_X0_has l D ad ca T σ x1) mv_X0_has wm_X4_71 (by decide) rfl rfl (by decide) rfl rfl (Nat.le_of_ble_eq_true rfl) dX4_strike_5 (fun r5 h5 => ?_)
  try dsimp only at h5
  refine sd_if_ne C 15 dX4_strike_8 (by decide) (fun c8 => ?_) (fun c8 => ?_)
  · have t1 := hC.2.1 x1.toInt.toNat (by omega)
    have t2 := hG.2.1 x1.toInt.toNat (by omega)
    refine sd_aload_n C dX4_strike_15 0 rfl rfl ?_
    refine sd_get C (by decide) rfl rfl 0 (by decide) rfl wf_X4_10 dX4_strike_16 ?_
    refine sd_get C (by decide) rfl rfl 3 (by decide) rfl wf_X4_74 dX4_strike_19 ?_
    refine sd_iload_n C dX4_strike_22 1 rfl rfl ?_
    refine sd_zald C (by decide) rfl (x1.toInt.toNat) ⟨by omega, by omega⟩ dX4_strike_23 ?_
    refine sd_pSi C (c_X4_bit l D ad ca T σ (σ 5 (x1.toInt.toNat))) mv_X4_bit wm_X4_78 (by decide) rfl rfl (Nat.le_of_ble_eq_true rfl) dX4_strike_24 (fun r24 h24 => ?_)
    try dsimp only at h24
    refine sd_istore_n (lv' := [(3, .int r24), (0, .ref (ad 0)), (1, .int x1), (2, .int x2)]) C dX4_strike_27 rfl (by decide) rfl ?_
    refine sd_aload_n C dX4_strike_28 1 rfl rfl ?_
    refine sd_get C (by decide) rfl rfl 0 (by decide) rfl wf_X4_10 dX4_strike_29 ?_
    refine sd_get C (by decide) rfl rfl 3 (by decide) rfl wf_X4_74 dX4_strike_32 ?_
    refine sd_iload_n C dX4_strike_35 2 rfl rfl ?_
    refine sd_iload_n C dX4_strike_36 3 rfl rfl ?_
    refine sd_zast C (by decide) (fun _ => rfl) (x1.toInt.toNat) ⟨by omega, by omega⟩ (by omega) dX4_strike_37 (fun s37 es37 => ?_)
    have hC9 : sd_CR s37 (b_set β 4 x1.toInt.toNat x2.toInt) := by rw [es37]; exact sd_CR_set hC rfl (by omega)
    have hG9 : sd_RG (b_set β 4 x1.toInt.toNat x2.toInt) := sd_RG_strike hG hx2
    have hB9 : sd_BT s37 (b_set β 4 x1.toInt.toNat x2.toInt) := by rw [es37]; exact sd_BT_set hB (by decide) (by decide)
    refine sd_aload_n C dX4_strike_38 1 rfl rfl ?_
    refine sd_callVv C (c_X4_layRows l D ad ca T s37 (b_set β 4 x1.toInt.toNat x2.toInt) hC9 hG9 hB9) mv_X4_layRows wm_X4_68 (by decide) rfl rfl (by decide) rfl rfl (Nat.le_of_ble_eq_true rfl) dX4_strike_39 (fun s39 h39 => ?_)
    try dsimp only at h39
    refine sd_iload_n C dX4_strike_42 0 rfl rfl ?_
    exact hret _ _ _ _ dX4_strike_43 (by
        refine ⟨?_, ?_, ?_⟩
        · unfold an_strike
          repeat' split
          all_goals omega
        · unfold up_strike
          rw [if_neg (by omega)]
          exact sd_CS_lay hC9 hG9 hB9 h39
        · exact sd_hi_lay (fun i k hi => by rw [es37, sd_st_ne (by omega)]) h39.1)
  · refine sd_sipush C dX4_strike_11 (by decide) (fun k11 ek11 => ?_)
    exact hret _ _ _ _ dX4_strike_14 (⟨by
        unfold an_strike
        repeat' split
        all_goals omega, by
        unfold up_strike
        rw [if_pos (by omega)]; exact hS, fun _ _ _ => rfl⟩)

set_option maxRecDepth 20000 in
set_option maxHeartbeats 4000000 in
theorem c_X4_join (l : Launch) (D : va_G) (ad : Nat → Nat) (ca : Nat → ClassId) (T : Nat → Nat) (σ : sd_Mem) (β : sp_B) (hS : sd_CS σ β) (x1 x2 : Int32) : sd_Ci l yX4_join cX4_join 4 5 D ad ca T σ [.ref (ad 0), .int x1, .int x2] (fun r σ' => r.toInt = an_join β x1.toInt x2.toInt ∧ sd_CS σ' (up_join β x1.toInt x2.toInt) ∧ sd_hi σ σ') := by
  refine sd_ent_i (own := RX4) (by decide) rfl (Nat.le_of_ble_eq_true rfl) (fun X C hret => ?_)
  show sd_Wd X 4 D ad ca σ [(0, .ref (ad 0)), (1, .int x1), (2, .int x2)] 0 []
  obtain ⟨hC, hG, hB, hL⟩ := id hS
  have hN := sp_n_le hG
  refine sd_iload_n C dX4_join_0 1 rfl rfl ?_
  refine sd_pSz C (c_X4_isWho l D ad ca T σ x1) mv_X4_isWho wm_X4_56 (by decide) rfl rfl (Nat.le_of_ble_eq_true rfl) dX4_join_1 (fun r1 h1 => ?_)
  try dsimp only at h1
  refine sd_if_eq C 21 dX4_join_4 (by decide) (fun c4 => ?_) (fun c4 => ?_)
  · refine sd_sipush C dX4_join_21 (by decide) (fun k21 ek21 => ?_)
    exact hret _ _ _ _ dX4_join_24 (⟨by
        unfold an_join
        repeat' split
        all_goals omega, by
        unfold up_join
        rw [if_pos (by omega)]; exact hS, fun _ _ _ => rfl⟩)
  · refine sd_iload_n C dX4_join_7 1 rfl rfl ?_
    refine sd_pSz C (c_X4_isName l D ad ca T σ x1) mv_X4_isName wm_X4_82 (by decide) rfl rfl (Nat.le_of_ble_eq_true rfl) dX4_join_8 (fun r8 h8 => ?_)
    try dsimp only at h8
    refine sd_if_ne C 21 dX4_join_11 (by decide) (fun c11 => ?_) (fun c11 => ?_)
    · refine sd_sipush C dX4_join_21 (by decide) (fun k21 ek21 => ?_)
      exact hret _ _ _ _ dX4_join_24 (⟨by
          unfold an_join
          repeat' split
          all_goals omega, by
          unfold up_join
          rw [if_pos (by omega)]; exact hS, fun _ _ _ => rfl⟩)
    · refine sd_iload_n C dX4_join_14 2 rfl rfl ?_
      refine sd_pSz C (c_X4_isName l D ad ca T σ x2) mv_X4_isName wm_X4_82 (by decide) rfl rfl (Nat.le_of_ble_eq_true rfl) dX4_join_15 (fun r15 h15 => ?_)
      try dsimp only at h15
      refine sd_if_ne C 25 dX4_join_18 (by decide) (fun c18 => ?_) (fun c18 => ?_)
      · have t1 := hC.2.2.1 x1.toInt.toNat (by omega)
        have t2 := (hL.1 x1.toInt.toNat (by omega)).2.1
        refine sd_aload_n C dX4_join_25 0 rfl rfl ?_
        refine sd_iload_n C dX4_join_26 1 rfl rfl ?_
        refine sd_pVz C (c_X4_isJoined l D ad ca T σ x1 (by omega) (by omega)) mv_X4_isJoined wm_X4_85 (by decide) rfl rfl (by decide) rfl rfl (Nat.le_of_ble_eq_true rfl) dX4_join_27 (fun r27 h27 => ?_)
        try dsimp only at h27
        refine sd_if_eq C 37 dX4_join_30 (by decide) (fun c30 => ?_) (fun c30 => ?_)
        · refine sd_aload_n C dX4_join_37 0 rfl rfl ?_
          refine sd_get C (by decide) rfl rfl 3 (by decide) rfl wf_X4_22 dX4_join_38 ?_
          refine sd_iload_n C dX4_join_41 1 rfl rfl ?_
          refine sd_aald9 C (x1.toInt.toNat) ⟨by omega, by omega⟩ dX4_join_42 ?_
          refine sd_get C (by omega) (sd_cell_row _ (by omega)) rfl 3 (by decide) rfl wf_X4_88 dX4_join_43 ?_
          refine sd_istore_n (lv' := [(3, .int (σ (16 + x1.toInt.toNat) 3)), (0, .ref (ad 0)), (1, .int x1), (2, .int x2)]) C dX4_join_46 rfl (by decide) rfl ?_
          refine sd_aload_n C dX4_join_47 1 rfl rfl ?_
          refine sd_get C (by decide) rfl rfl 1 (by decide) rfl wf_X4_16 dX4_join_48 ?_
          refine sd_iload_n C dX4_join_51 2 rfl rfl ?_
          refine sd_iload_n C dX4_join_52 3 rfl rfl ?_
          refine sd_iast C (by decide) (fun _ => rfl) (x1.toInt.toNat) ⟨by omega, by omega⟩ dX4_join_53 (fun s53 es53 => ?_)
          have hC9 : sd_CR s53 (b_set β 5 x1.toInt.toNat x2.toInt) := by rw [es53]; exact sd_CR_set hC rfl (by omega)
          have hG9 : sd_RG (b_set β 5 x1.toInt.toNat x2.toInt) := sd_RG_join hG (by omega) (by omega)
          have hB9 : sd_BT s53 (b_set β 5 x1.toInt.toNat x2.toInt) := by rw [es53]; exact sd_BT_set hB (by decide) (by decide)
          refine sd_aload_n C dX4_join_54 1 rfl rfl ?_
          refine sd_callVv C (c_X4_layRows l D ad ca T s53 (b_set β 5 x1.toInt.toNat x2.toInt) hC9 hG9 hB9) mv_X4_layRows wm_X4_68 (by decide) rfl rfl (by decide) rfl rfl (Nat.le_of_ble_eq_true rfl) dX4_join_55 (fun s55 h55 => ?_)
          try dsimp only at h55
          refine sd_iload_n C dX4_join_58 0 rfl rfl ?_
          exact hret _ _ _ _ dX4_join_59 (by
              refine ⟨?_, ?_, ?_⟩
              · unfold an_join
                repeat' split
                all_goals omega
              · unfold up_join
                rw [if_neg (by omega)]
                exact sd_CS_lay hC9 hG9 hB9 h55
              · exact sd_hi_lay (fun i k hi => by rw [es53, sd_st_ne (by omega)]) h55.1)
        · refine sd_sipush C dX4_join_33 (by decide) (fun k33 ek33 => ?_)
          exact hret _ _ _ _ dX4_join_36 (⟨by
              unfold an_join
              repeat' split
              all_goals omega, by
              unfold up_join
              rw [if_pos (by omega)]; exact hS, fun _ _ _ => rfl⟩)
      · refine sd_sipush C dX4_join_21 (by decide) (fun k21 ek21 => ?_)
        exact hret _ _ _ _ dX4_join_24 (⟨by
            unfold an_join
            repeat' split
            all_goals omega, by
            unfold up_join
            rw [if_pos (by omega)]; exact hS, fun _ _ _ => rfl⟩)

set_option maxRecDepth 20000 in
set_option maxHeartbeats 4000000 in
theorem c_X4_rule (l : Launch) (D : va_G) (ad : Nat → Nat) (ca : Nat → ClassId) (T : Nat → Nat) (σ : sd_Mem) (β : sp_B) (hS : sd_CS σ β) (x1 x2 : Int32) : sd_Ci l yX4_rule cX4_rule 4 5 D ad ca T σ [.ref (ad 0), .int x1, .int x2] (fun r σ' => r.toInt = an_rule β x1.toInt x2.toInt ∧ sd_CS σ' (up_rule β x1.toInt x2.toInt) ∧ sd_hi σ σ') := by
  refine sd_ent_i (own := RX4) (by decide) rfl (Nat.le_of_ble_eq_true rfl) (fun X C hret => ?_)
  show sd_Wd X 4 D ad ca σ [(0, .ref (ad 0)), (1, .int x1), (2, .int x2)] 0 []
  obtain ⟨hC, hG, hB, hL⟩ := id hS
  have hN := sp_n_le hG
  refine sd_iload_n C dX4_rule_0 1 rfl rfl ?_
  refine sd_if_lt C 28 dX4_rule_1 (by decide) (fun c1 => ?_) (fun c1 => ?_)
  · refine sd_sipush C dX4_rule_28 (by decide) (fun k28 ek28 => ?_)
    exact hret _ _ _ _ dX4_rule_31 (⟨by
        unfold an_rule
        repeat' split
        all_goals omega, by
        unfold up_rule
        rw [if_pos (by omega)]; exact hS, fun _ _ _ => rfl⟩)
  · refine sd_iload_n C dX4_rule_4 1 rfl rfl ?_
    refine sd_bipush C dX4_rule_5 (by decide) (fun k5 ek5 => ?_)
    refine sd_icmp_ge C 28 dX4_rule_7 (by decide) (fun c7 => ?_) (fun c7 => ?_)
    · refine sd_sipush C dX4_rule_28 (by decide) (fun k28 ek28 => ?_)
      exact hret _ _ _ _ dX4_rule_31 (⟨by
          unfold an_rule
          repeat' split
          all_goals omega, by
          unfold up_rule
          rw [if_pos (by omega)]; exact hS, fun _ _ _ => rfl⟩)
    · have t0 := sd_t0_lo (x := x1.toInt) (by omega) (by omega)
      have t1 := sd_t1_hi (x := x1.toInt) (by omega) (by omega)
      have t2 := hC.2.2.2.1 x1.toInt.toNat (by omega)
      refine sd_iload_n C dX4_rule_10 2 rfl rfl ?_
      refine sd_gs0 C wf_X4_91 dX4_rule_11 ?_
      refine sd_iload_n C dX4_rule_14 1 rfl rfl ?_
      refine sd_tl0 C (x1.toInt.toNat) ⟨by omega, by omega⟩ dX4_rule_15 ?_
      refine sd_icmp_lt C 28 dX4_rule_16 (by decide) (fun c16 => ?_) (fun c16 => ?_)
      · refine sd_sipush C dX4_rule_28 (by decide) (fun k28 ek28 => ?_)
        exact hret _ _ _ _ dX4_rule_31 (⟨by
            unfold an_rule
            repeat' split
            all_goals omega, by
            unfold up_rule
            rw [if_pos (by omega)]; exact hS, fun _ _ _ => rfl⟩)
      · refine sd_iload_n C dX4_rule_19 2 rfl rfl ?_
        refine sd_gs1 C wf_X4_94 dX4_rule_20 ?_
        refine sd_iload_n C dX4_rule_23 1 rfl rfl ?_
        refine sd_tl1 C (x1.toInt.toNat) ⟨by omega, by omega⟩ dX4_rule_24 ?_
        refine sd_icmp_le C 32 dX4_rule_25 (by decide) (fun c25 => ?_) (fun c25 => ?_)
        · refine sd_aload_n C dX4_rule_32 0 rfl rfl ?_
          refine sd_get C (by decide) rfl rfl 2 (by decide) rfl wf_X4_29 dX4_rule_33 ?_
          refine sd_iload_n C dX4_rule_36 1 rfl rfl ?_
          refine sd_iald C (by decide) rfl (x1.toInt.toNat) ⟨by omega, by omega⟩ dX4_rule_37 ?_
          refine sd_istore_n (lv' := [(3, .int (σ 8 (x1.toInt.toNat))), (0, .ref (ad 0)), (1, .int x1), (2, .int x2)]) C dX4_rule_38 rfl (by decide) rfl ?_
          refine sd_aload_n C dX4_rule_39 1 rfl rfl ?_
          refine sd_get C (by decide) rfl rfl 2 (by decide) rfl wf_X4_29 dX4_rule_40 ?_
          refine sd_iload_n C dX4_rule_43 2 rfl rfl ?_
          refine sd_iload_n C dX4_rule_44 3 rfl rfl ?_
          refine sd_iast C (by decide) (fun _ => rfl) (x1.toInt.toNat) ⟨by omega, by omega⟩ dX4_rule_45 (fun s45 es45 => ?_)
          have hC9 : sd_CR s45 (b_set β 6 x1.toInt.toNat x2.toInt) := by rw [es45]; exact sd_CR_set hC rfl (by omega)
          have hG9 : sd_RG (b_set β 6 x1.toInt.toNat x2.toInt) := sd_RG_rule hG (by omega) (by rw [show ((x1.toInt.toNat : Nat) : Int) = x1.toInt by omega]; omega) (by rw [show ((x1.toInt.toNat : Nat) : Int) = x1.toInt by omega]; omega)
          have hB9 : sd_BT s45 (b_set β 6 x1.toInt.toNat x2.toInt) := by rw [es45]; exact sd_BT_set hB (by decide) (by decide)
          refine sd_aload_n C dX4_rule_46 1 rfl rfl ?_
          refine sd_callVv C (c_X4_layRows l D ad ca T s45 (b_set β 6 x1.toInt.toNat x2.toInt) hC9 hG9 hB9) mv_X4_layRows wm_X4_68 (by decide) rfl rfl (by decide) rfl rfl (Nat.le_of_ble_eq_true rfl) dX4_rule_47 (fun s47 h47 => ?_)
          try dsimp only at h47
          refine sd_iload_n C dX4_rule_50 0 rfl rfl ?_
          exact hret _ _ _ _ dX4_rule_51 (by
              refine ⟨?_, ?_, ?_⟩
              · unfold an_rule
                repeat' split
                all_goals omega
              · unfold up_rule
                rw [if_neg (by omega)]
                exact sd_CS_lay hC9 hG9 hB9 h47
              · exact sd_hi_lay (fun i k hi => by rw [es45, sd_st_ne (by omega)]) h47.1)
        · refine sd_sipush C dX4_rule_28 (by decide) (fun k28 ek28 => ?_)
          exact hret _ _ _ _ dX4_rule_31 (⟨by
              unfold an_rule
              repeat' split
              all_goals omega, by
              unfold up_rule
              rw [if_pos (by omega)]; exact hS, fun _ _ _ => rfl⟩)

set_option maxRecDepth 20000 in
set_option maxHeartbeats 4000000 in
theorem c_X4_told (l : Launch) (D : va_G) (ad : Nat → Nat) (ca : Nat → ClassId) (T : Nat → Nat) (σ : sd_Mem) (β : sp_B) (hS : sd_CS σ β) (x1 x2 : Int32) : sd_Ci l yX4_told cX4_told 3 1 D ad ca T σ [.ref (ad 0), .int x1, .int x2] (fun r σ' => σ' = σ ∧ (r.toInt = an_told β x1.toInt x2.toInt)) := by
  refine sd_ent_i (own := RX4) (by decide) rfl (Nat.le_of_ble_eq_true rfl) (fun X C hret => ?_)
  show sd_Wd X 3 D ad ca σ [(0, .ref (ad 0)), (1, .int x1), (2, .int x2)] 0 []
  obtain ⟨hC, hG, hB, hL⟩ := id hS
  have hN := sp_n_le hG
  have hn := hC.1.1
  refine sd_aload_n C dX4_told_0 0 rfl rfl ?_
  refine sd_get C (by decide) rfl rfl 0 (by decide) rfl wf_X4_10 dX4_told_1 ?_
  refine sd_iload_n C dX4_told_4 1 rfl rfl ?_
  refine sd_pVz C (c_X0_has l D ad ca T σ x1) mv_X0_has wm_X4_71 (by decide) rfl rfl (by decide) rfl rfl (Nat.le_of_ble_eq_true rfl) dX4_told_5 (fun r5 h5 => ?_)
  try dsimp only at h5
  refine sd_if_ne C 15 dX4_told_8 (by decide) (fun c8 => ?_) (fun c8 => ?_)
  · have t1 := hC.2.1 x1.toInt.toNat (by omega)
    have t2 := hG.2.1 x1.toInt.toNat (by omega)
    have t3 := hC.2.2.1 (β 2 x1.toInt.toNat).toNat (by omega)
    have t4 := hG.2.2.1 (β 2 x1.toInt.toNat).toNat (by omega)
    have t5 : (sp_per β x1.toInt.toNat : Int) = β 5 (β 2 x1.toInt.toNat).toNat := by unfold sp_per; omega
    obtain ⟨t6, t7⟩ := hL.2 x1.toInt.toNat (by omega)
    have t8 := sp_pl_rng (sp_row β (sp_per β x1.toInt.toNat)) x1.toInt.toNat
    refine sd_iload_n C dX4_told_15 2 rfl rfl ?_
    have hw16 : x2.toInt = 0 ∨ x2.toInt = 1 ∨ x2.toInt = 2 ∨ x2.toInt = 3 ∨ x2.toInt = 4 ∨ x2.toInt = 5 ∨ x2.toInt = 6 ∨ (x2.toInt ≠ 0 ∧ x2.toInt ≠ 1 ∧ x2.toInt ≠ 2 ∧ x2.toInt ≠ 3 ∧ x2.toInt ≠ 4 ∧ x2.toInt ≠ 5 ∧ x2.toInt ≠ 6) := by omega
    rcases hw16 with w16 | w16 | w16 | w16 | w16 | w16 | w16 | w16
    · refine sd_tableIn C 60 (0) dX4_told_16 w16 (by decide) rfl (by decide) ?_
      refine sd_aload_n C dX4_told_60 0 rfl rfl ?_
      refine sd_get C (by decide) rfl rfl 0 (by decide) rfl wf_X4_10 dX4_told_61 ?_
      refine sd_get C (by decide) rfl rfl 0 (by decide) rfl wf_X4_97 dX4_told_64 ?_
      refine sd_iload_n C dX4_told_67 1 rfl rfl ?_
      refine sd_iald C (by decide) rfl (x1.toInt.toNat) ⟨by omega, by omega⟩ dX4_told_68 ?_
      exact hret _ _ _ _ dX4_told_69 (⟨rfl, by
          unfold an_told
          repeat' split
          all_goals omega⟩)
    · refine sd_tableIn C 70 (1) dX4_told_16 w16 (by decide) rfl (by decide) ?_
      refine sd_aload_n C dX4_told_70 0 rfl rfl ?_
      refine sd_get C (by decide) rfl rfl 0 (by decide) rfl wf_X4_10 dX4_told_71 ?_
      refine sd_get C (by decide) rfl rfl 1 (by decide) rfl wf_X4_100 dX4_told_74 ?_
      refine sd_iload_n C dX4_told_77 1 rfl rfl ?_
      refine sd_iald C (by decide) rfl (x1.toInt.toNat) ⟨by omega, by omega⟩ dX4_told_78 ?_
      exact hret _ _ _ _ dX4_told_79 (⟨rfl, by
          unfold an_told
          repeat' split
          all_goals omega⟩)
    · refine sd_tableIn C 80 (2) dX4_told_16 w16 (by decide) rfl (by decide) ?_
      refine sd_aload_n C dX4_told_80 0 rfl rfl ?_
      refine sd_get C (by decide) rfl rfl 0 (by decide) rfl wf_X4_10 dX4_told_81 ?_
      refine sd_get C (by decide) rfl rfl 2 (by decide) rfl wf_X4_103 dX4_told_84 ?_
      refine sd_iload_n C dX4_told_87 1 rfl rfl ?_
      refine sd_iald C (by decide) rfl (x1.toInt.toNat) ⟨by omega, by omega⟩ dX4_told_88 ?_
      exact hret _ _ _ _ dX4_told_89 (⟨rfl, by
          unfold an_told
          repeat' split
          all_goals omega⟩)
    · refine sd_tableIn C 90 (3) dX4_told_16 w16 (by decide) rfl (by decide) ?_
      refine sd_aload_n C dX4_told_90 0 rfl rfl ?_
      refine sd_get C (by decide) rfl rfl 1 (by decide) rfl wf_X4_16 dX4_told_91 ?_
      refine sd_aload_n C dX4_told_94 0 rfl rfl ?_
      refine sd_get C (by decide) rfl rfl 0 (by decide) rfl wf_X4_10 dX4_told_95 ?_
      refine sd_get C (by decide) rfl rfl 1 (by decide) rfl wf_X4_100 dX4_told_98 ?_
      refine sd_iload_n C dX4_told_101 1 rfl rfl ?_
      refine sd_iald C (by decide) rfl (x1.toInt.toNat) ⟨by omega, by omega⟩ dX4_told_102 ?_
      refine sd_iald C (by decide) rfl ((β 2 x1.toInt.toNat).toNat) ⟨by omega, by omega⟩ dX4_told_103 ?_
      exact hret _ _ _ _ dX4_told_104 (⟨rfl, by
          unfold an_told
          repeat' split
          all_goals omega⟩)
    · refine sd_tableIn C 105 (4) dX4_told_16 w16 (by decide) rfl (by decide) ?_
      refine sd_aload_n C dX4_told_105 0 rfl rfl ?_
      refine sd_get C (by decide) rfl rfl 4 (by decide) rfl wf_X4_32 dX4_told_106 ?_
      refine sd_iload_n C dX4_told_109 1 rfl rfl ?_
      refine sd_iald C (by decide) rfl (x1.toInt.toNat) ⟨by omega, by omega⟩ dX4_told_110 ?_
      refine sd_iconst C dX4_told_111 (by decide) (fun k111 ek111 => ?_)
      refine sd_icmp_eq C 119 dX4_told_112 (by decide) (fun c112 => ?_) (fun c112 => ?_)
      · refine sd_iconst C dX4_told_119 (by decide) (fun k119 ek119 => ?_)
        refine sd_pSi C (c_X4_bit l D ad ca T σ k119) mv_X4_bit wm_X4_78 (by decide) rfl rfl (Nat.le_of_ble_eq_true rfl) dX4_told_120 (fun r120 h120 => ?_)
        try dsimp only at h120
        exact hret _ _ _ _ dX4_told_123 (⟨rfl, by
            unfold an_told
            repeat' split
            all_goals omega⟩)
      · refine sd_iconst C dX4_told_115 (by decide) (fun k115 ek115 => ?_)
        refine sd_goto C 120 dX4_told_116 (by decide) ?_
        refine sd_pSi C (c_X4_bit l D ad ca T σ k115) mv_X4_bit wm_X4_78 (by decide) rfl rfl (Nat.le_of_ble_eq_true rfl) dX4_told_120 (fun r120 h120 => ?_)
        try dsimp only at h120
        exact hret _ _ _ _ dX4_told_123 (⟨rfl, by
            unfold an_told
            repeat' split
            all_goals omega⟩)
    · refine sd_tableIn C 124 (5) dX4_told_16 w16 (by decide) rfl (by decide) ?_
      refine sd_aload_n C dX4_told_124 0 rfl rfl ?_
      refine sd_get C (by decide) rfl rfl 5 (by decide) rfl wf_X4_35 dX4_told_125 ?_
      refine sd_iload_n C dX4_told_128 1 rfl rfl ?_
      refine sd_iald C (by decide) rfl (x1.toInt.toNat) ⟨by omega, by omega⟩ dX4_told_129 ?_
      exact hret _ _ _ _ dX4_told_130 (⟨rfl, by
          unfold an_told
          repeat' split
          all_goals omega⟩)
    · refine sd_tableIn C 131 (6) dX4_told_16 w16 (by decide) rfl (by decide) ?_
      refine sd_aload_n C dX4_told_131 0 rfl rfl ?_
      refine sd_get C (by decide) rfl rfl 4 (by decide) rfl wf_X4_32 dX4_told_132 ?_
      refine sd_iload_n C dX4_told_135 1 rfl rfl ?_
      refine sd_iald C (by decide) rfl (x1.toInt.toNat) ⟨by omega, by omega⟩ dX4_told_136 ?_
      exact hret _ _ _ _ dX4_told_137 (⟨rfl, by
          unfold an_told
          repeat' split
          all_goals omega⟩)
    · refine sd_tableOut C 138 dX4_told_16 (by omega) (by decide) ?_
      refine sd_sipush C dX4_told_138 (by decide) (fun k138 ek138 => ?_)
      exact hret _ _ _ _ dX4_told_141 (⟨rfl, by
          unfold an_told
          repeat' split
          all_goals omega⟩)
  · refine sd_sipush C dX4_told_11 (by decide) (fun k11 ek11 => ?_)
    exact hret _ _ _ _ dX4_told_14 (⟨rfl, by
        unfold an_told
        repeat' split
        all_goals omega⟩)

set_option maxRecDepth 20000 in
set_option maxHeartbeats 4000000 in
theorem c_X4_person (l : Launch) (D : va_G) (ad : Nat → Nat) (ca : Nat → ClassId) (T : Nat → Nat) (σ : sd_Mem) (β : sp_B) (hS : sd_CS σ β) (x1 x2 : Int32) : sd_Ci l yX4_person cX4_person 4 3 D ad ca T σ [.ref (ad 0), .int x1, .int x2] (fun r σ' => σ' = σ ∧ (r.toInt = an_person β x1.toInt x2.toInt)) := by
  refine sd_ent_i (own := RX4) (by decide) rfl (Nat.le_of_ble_eq_true rfl) (fun X C hret => ?_)
  show sd_Wd X 4 D ad ca σ [(0, .ref (ad 0)), (1, .int x1), (2, .int x2)] 0 []
  obtain ⟨hC, hG, hB, hL⟩ := id hS
  have hN := sp_n_le hG
  refine sd_iload_n C dX4_person_0 1 rfl rfl ?_
  refine sd_pSz C (c_X4_isWho l D ad ca T σ x1) mv_X4_isWho wm_X4_56 (by decide) rfl rfl (Nat.le_of_ble_eq_true rfl) dX4_person_1 (fun r1 h1 => ?_)
  try dsimp only at h1
  refine sd_if_ne C 11 dX4_person_4 (by decide) (fun c4 => ?_) (fun c4 => ?_)
  · have p1 := hC.2.2.1 x1.toInt.toNat (by omega)
    have p2 := hG.2.2.1 x1.toInt.toNat (by omega)
    have hq : sp_q β x1.toInt < 24 := by unfold sp_q; omega
    have hqe : (σ 7 x1.toInt.toNat).toInt = (sp_q β x1.toInt : Int) := by unfold sp_q; omega
    have hLr := hL.1 _ hq
    have hW := hLr.rw hC hG
    obtain ⟨L1, L2, L3, L4⟩ := hLr
    have L0 := L1.1
    have hok := sp_row_ok hG (sp_q β x1.toInt)
    refine sd_aload_n C dX4_person_11 0 rfl rfl ?_
    refine sd_get C (by decide) rfl rfl 3 (by decide) rfl wf_X4_22 dX4_person_12 ?_
    refine sd_aload_n C dX4_person_15 0 rfl rfl ?_
    refine sd_get C (by decide) rfl rfl 1 (by decide) rfl wf_X4_16 dX4_person_16 ?_
    refine sd_iload_n C dX4_person_19 1 rfl rfl ?_
    refine sd_iald C (by decide) rfl (x1.toInt.toNat) ⟨by omega, by omega⟩ dX4_person_20 ?_
    refine sd_aald9 C (sp_q β x1.toInt) ⟨by omega, by omega⟩ dX4_person_21 ?_
    refine sd_astore_n (lv' := [(3, .ref (ad (16 + sp_q β x1.toInt))), (0, .ref (ad 0)), (1, .int x1), (2, .int x2)]) C dX4_person_22 rfl (by decide) rfl ?_
    refine sd_iload_n C dX4_person_23 3 rfl rfl ?_
    have hw24 : x2.toInt = 0 ∨ x2.toInt = 1 ∨ x2.toInt = 2 ∨ x2.toInt = 3 ∨ x2.toInt = 4 ∨ x2.toInt = 5 ∨ (x2.toInt ≠ 0 ∧ x2.toInt ≠ 1 ∧ x2.toInt ≠ 2 ∧ x2.toInt ≠ 3 ∧ x2.toInt ≠ 4 ∧ x2.toInt ≠ 5) := by omega
    rcases hw24 with w24 | w24 | w24 | w24 | w24 | w24 | w24
    · refine sd_tableIn C 64 (0) dX4_person_24 w24 (by decide) rfl (by decide) ?_
      refine sd_aload_n C dX4_person_64 1 rfl rfl ?_
      refine sd_get C (by decide) rfl rfl 1 (by decide) rfl wf_X4_16 dX4_person_65 ?_
      refine sd_iload_n C dX4_person_68 2 rfl rfl ?_
      refine sd_iald C (by decide) rfl (x1.toInt.toNat) ⟨by omega, by omega⟩ dX4_person_69 ?_
      exact hret _ _ _ _ dX4_person_70 (⟨rfl, by
          unfold an_person
          repeat' split
          all_goals omega⟩)
    · refine sd_tableIn C 71 (1) dX4_person_24 w24 (by decide) rfl (by decide) ?_
      refine sd_aload_n C dX4_person_71 0 rfl rfl ?_
      refine sd_get C (by omega) (sd_cell_row _ (by omega)) rfl 3 (by decide) rfl wf_X4_88 dX4_person_72 ?_
      exact hret _ _ _ _ dX4_person_75 (⟨rfl, by
          unfold an_person
          repeat' split
          all_goals omega⟩)
    · refine sd_tableIn C 76 (2) dX4_person_24 w24 (by decide) rfl (by decide) ?_
      refine sd_aload_n C dX4_person_76 0 rfl rfl ?_
      refine sd_get C (by omega) (sd_cell_row _ (by omega)) rfl 2 (by decide) rfl wf_X4_106 dX4_person_77 ?_
      exact hret _ _ _ _ dX4_person_80 (⟨rfl, by
          unfold an_person
          repeat' split
          all_goals omega⟩)
    · refine sd_tableIn C 81 (3) dX4_person_24 w24 (by decide) rfl (by decide) ?_
      refine sd_aload_n C dX4_person_81 0 rfl rfl ?_
      refine sd_get C (by omega) (sd_cell_row _ (by omega)) rfl 4 (by decide) rfl wf_X4_109 dX4_person_82 ?_
      refine sd_pSi C (c_X4_bit l D ad ca T σ (σ (16 + sp_q β x1.toInt) 4)) mv_X4_bit wm_X4_78 (by decide) rfl rfl (Nat.le_of_ble_eq_true rfl) dX4_person_85 (fun r85 h85 => ?_)
      try dsimp only at h85
      exact hret _ _ _ _ dX4_person_88 (⟨rfl, by
          unfold an_person
          by_cases hk : sp_quick β (sp_raw β (sp_q β x1.toInt)) = true
          · rw [hk] at L3
            simp only [if_true] at L3
            rw [hk]
            repeat' split
            all_goals first | omega | simp_all
          · simp only [hk] at L3 ⊢
            repeat' split
            all_goals first | omega | simp_all⟩)
    · refine sd_tableIn C 89 (4) dX4_person_24 w24 (by decide) rfl (by decide) ?_
      refine sd_aload_n C dX4_person_89 0 rfl rfl ?_
      refine sd_get C (by omega) (sd_cell_row _ (by omega)) rfl 5 (by decide) rfl wf_X4_113 dX4_person_90 ?_
      exact hret _ _ _ _ dX4_person_93 (⟨rfl, by
          unfold an_person
          repeat' split
          all_goals omega⟩)
    · refine sd_tableIn C 94 (5) dX4_person_24 w24 (by decide) rfl (by decide) ?_
      refine sd_aload_n C dX4_person_94 0 rfl rfl ?_
      refine sd_aload_n C dX4_person_95 1 rfl rfl ?_
      refine sd_get C (by decide) rfl rfl 2 (by decide) rfl wf_X4_29 dX4_person_96 ?_
      refine sd_iconst C dX4_person_99 (by decide) (fun k99 ek99 => ?_)
      refine sd_iald C (by decide) rfl (5) ⟨by omega, by omega⟩ dX4_person_100 ?_
      refine sd_pVi C (c_X2_birth l D ad ca T σ β (sp_q β x1.toInt) (sp_row β (sp_q β x1.toInt)) hW hq (σ 8 5) (hC.2.2.2.1 5 (by decide))) mv_X2_birth wm_X4_116 (by omega) (sd_cell_row _ (by omega)) rfl (by decide) rfl rfl (Nat.le_of_ble_eq_true rfl) dX4_person_101 (fun r101 h101 => ?_)
      try dsimp only at h101
      exact hret _ _ _ _ dX4_person_104 (⟨rfl, by
          unfold an_person
          repeat' split
          all_goals omega⟩)
    · refine sd_tableOut C 105 dX4_person_24 (by omega) (by decide) ?_
      refine sd_sipush C dX4_person_105 (by decide) (fun k105 ek105 => ?_)
      exact hret _ _ _ _ dX4_person_108 (⟨rfl, by
          unfold an_person
          repeat' split
          all_goals omega⟩)
  · refine sd_sipush C dX4_person_7 (by decide) (fun k7 ek7 => ?_)
    exact hret _ _ _ _ dX4_person_10 (⟨rfl, by
        unfold an_person
        repeat' split
        all_goals omega⟩)

set_option maxRecDepth 20000 in
set_option maxHeartbeats 4000000 in
theorem c_X4_row (l : Launch) (D : va_G) (ad : Nat → Nat) (ca : Nat → ClassId) (T : Nat → Nat) (σ : sd_Mem) (β : sp_B) (hS : sd_CS σ β) (x1 x2 : Int32) : sd_Ci l yX4_row cX4_row 4 1 D ad ca T σ [.ref (ad 0), .int x1, .int x2] (fun r σ' => σ' = σ ∧ (r.toInt = an_row β x1.toInt x2.toInt)) := by
  refine sd_ent_i (own := RX4) (by decide) rfl (Nat.le_of_ble_eq_true rfl) (fun X C hret => ?_)
  show sd_Wd X 4 D ad ca σ [(0, .ref (ad 0)), (1, .int x1), (2, .int x2)] 0 []
  obtain ⟨hC, hG, hB, hL⟩ := id hS
  have hN := sp_n_le hG
  refine sd_iload_n C dX4_row_0 1 rfl rfl ?_
  refine sd_pSz C (c_X4_isWho l D ad ca T σ x1) mv_X4_isWho wm_X4_56 (by decide) rfl rfl (Nat.le_of_ble_eq_true rfl) dX4_row_1 (fun r1 h1 => ?_)
  try dsimp only at h1
  refine sd_if_ne C 11 dX4_row_4 (by decide) (fun c4 => ?_) (fun c4 => ?_)
  · have p1 := hC.2.2.1 x1.toInt.toNat (by omega)
    have p2 := hG.2.2.1 x1.toInt.toNat (by omega)
    have hq : sp_q β x1.toInt < 24 := by unfold sp_q; omega
    have hqe : (σ 7 x1.toInt.toNat).toInt = (sp_q β x1.toInt : Int) := by unfold sp_q; omega
    have hLr := hL.1 _ hq
    have hW := hLr.rw hC hG
    obtain ⟨L1, L2, L3, L4⟩ := hLr
    have L0 := L1.1
    have hok := sp_row_ok hG (sp_q β x1.toInt)
    refine sd_aload_n C dX4_row_11 0 rfl rfl ?_
    refine sd_get C (by decide) rfl rfl 3 (by decide) rfl wf_X4_22 dX4_row_12 ?_
    refine sd_aload_n C dX4_row_15 0 rfl rfl ?_
    refine sd_get C (by decide) rfl rfl 1 (by decide) rfl wf_X4_16 dX4_row_16 ?_
    refine sd_iload_n C dX4_row_19 1 rfl rfl ?_
    refine sd_iald C (by decide) rfl (x1.toInt.toNat) ⟨by omega, by omega⟩ dX4_row_20 ?_
    refine sd_aald9 C (sp_q β x1.toInt) ⟨by omega, by omega⟩ dX4_row_21 ?_
    refine sd_astore_n (lv' := [(3, .ref (ad (16 + sp_q β x1.toInt))), (0, .ref (ad 0)), (1, .int x1), (2, .int x2)]) C dX4_row_22 rfl (by decide) rfl ?_
    refine sd_aload_n C dX4_row_23 0 rfl rfl ?_
    refine sd_iload_n C dX4_row_24 3 rfl rfl ?_
    refine sd_pVz C (c_X2_has l D ad ca T σ (sp_q β x1.toInt) hq x2) mv_X2_has wm_X4_120 (by omega) (sd_cell_row _ (by omega)) rfl (by decide) rfl rfl (Nat.le_of_ble_eq_true rfl) dX4_row_25 (fun r25 h25 => ?_)
    try dsimp only at h25
    refine sd_if_eq C 40 dX4_row_28 (by decide) (fun c28 => ?_) (fun c28 => ?_)
    · refine sd_iconst C dX4_row_40 (by decide) (fun k40 ek40 => ?_)
      exact hret _ _ _ _ dX4_row_41 (⟨rfl, by
          unfold an_row
          repeat' split
          all_goals omega⟩)
    · have L5 := L1.2 x2.toInt.toNat (by omega)
      refine sd_aload_n C dX4_row_31 0 rfl rfl ?_
      refine sd_get C (by omega) (sd_cell_row _ (by omega)) rfl 1 (by decide) rfl wf_X4_121 dX4_row_32 ?_
      refine sd_iload_n C dX4_row_35 3 rfl rfl ?_
      refine sd_iald C (by omega) (sd_cell_rowA _ (by omega)) (x2.toInt.toNat) ⟨by omega, by omega⟩ dX4_row_36 ?_
      refine sd_goto C 41 dX4_row_37 (by decide) ?_
      exact hret _ _ _ _ dX4_row_41 (⟨rfl, by
          unfold an_row
          repeat' split
          all_goals omega⟩)
  · refine sd_sipush C dX4_row_7 (by decide) (fun k7 ek7 => ?_)
    exact hret _ _ _ _ dX4_row_10 (⟨rfl, by
        unfold an_row
        repeat' split
        all_goals omega⟩)

set_option maxRecDepth 20000 in
set_option maxHeartbeats 4000000 in
theorem c_X4_sitting (l : Launch) (D : va_G) (ad : Nat → Nat) (ca : Nat → ClassId) (T : Nat → Nat) (σ : sd_Mem) (β : sp_B) (hS : sd_CS σ β) (x1 x2 x3 : Int32) : sd_Ci l yX4_sitting cX4_sitting 10 1 D ad ca T σ [.ref (ad 0), .int x1, .int x2, .int x3] (fun r σ' => σ' = σ ∧ (r.toInt = an_sitting β x1.toInt x2.toInt x3.toInt)) := by
  refine sd_ent_i (own := RX4) (by decide) rfl (Nat.le_of_ble_eq_true rfl) (fun X C hret => ?_)
  show sd_Wd X 10 D ad ca σ [(0, .ref (ad 0)), (1, .int x1), (2, .int x2), (3, .int x3)] 0 []
  obtain ⟨hC, hG, hB, hL⟩ := id hS
  have hN := sp_n_le hG
  refine sd_iload_n C dX4_sitting_0 1 rfl rfl ?_
  refine sd_pSz C (c_X4_isWho l D ad ca T σ x1) mv_X4_isWho wm_X4_56 (by decide) rfl rfl (Nat.le_of_ble_eq_true rfl) dX4_sitting_1 (fun r1 h1 => ?_)
  try dsimp only at h1
  refine sd_if_ne C 11 dX4_sitting_4 (by decide) (fun c4 => ?_) (fun c4 => ?_)
  · have p1 := hC.2.2.1 x1.toInt.toNat (by omega)
    have p2 := hG.2.2.1 x1.toInt.toNat (by omega)
    have hq : sp_q β x1.toInt < 24 := by unfold sp_q; omega
    have hqe : (σ 7 x1.toInt.toNat).toInt = (sp_q β x1.toInt : Int) := by unfold sp_q; omega
    have hLr := hL.1 _ hq
    have hW := hLr.rw hC hG
    obtain ⟨L1, L2, L3, L4⟩ := hLr
    have L0 := L1.1
    have hok := sp_row_ok hG (sp_q β x1.toInt)
    refine sd_aload_n C dX4_sitting_11 0 rfl rfl ?_
    refine sd_get C (by decide) rfl rfl 3 (by decide) rfl wf_X4_22 dX4_sitting_12 ?_
    refine sd_aload_n C dX4_sitting_15 0 rfl rfl ?_
    refine sd_get C (by decide) rfl rfl 1 (by decide) rfl wf_X4_16 dX4_sitting_16 ?_
    refine sd_iload_n C dX4_sitting_19 1 rfl rfl ?_
    refine sd_iald C (by decide) rfl (x1.toInt.toNat) ⟨by omega, by omega⟩ dX4_sitting_20 ?_
    refine sd_aald9 C (sp_q β x1.toInt) ⟨by omega, by omega⟩ dX4_sitting_21 ?_
    refine sd_astore (lv' := [(4, .ref (ad (16 + sp_q β x1.toInt))), (0, .ref (ad 0)), (1, .int x1), (2, .int x2), (3, .int x3)]) C dX4_sitting_22 (by decide) rfl ?_
    refine sd_iconst C dX4_sitting_24 (by decide) (fun k24 ek24 => ?_)
    refine sd_istore (lv' := [(5, .int k24), (4, .ref (ad (16 + sp_q β x1.toInt))), (0, .ref (ad 0)), (1, .int x1), (2, .int x2), (3, .int x3)]) C dX4_sitting_25 (by decide) rfl ?_
    refine sd_iconst C dX4_sitting_27 (by decide) (fun k27 ek27 => ?_)
    refine sd_istore (lv' := [(6, .int k27), (5, .int k24), (4, .ref (ad (16 + sp_q β x1.toInt))), (0, .ref (ad 0)), (1, .int x1), (2, .int x2), (3, .int x3)]) C dX4_sitting_28 (by decide) rfl ?_
    refine sd_iconst C dX4_sitting_30 (by decide) (fun k30 ek30 => ?_)
    refine sd_istore (lv' := [(7, .int k30), (6, .int k27), (5, .int k24), (4, .ref (ad (16 + sp_q β x1.toInt))), (0, .ref (ad 0)), (1, .int x1), (2, .int x2), (3, .int x3)]) C dX4_sitting_31 (by decide) rfl ?_
    refine sd_iconst C dX4_sitting_33 (by decide) (fun k33 ek33 => ?_)
    refine sd_istore (lv' := [(8, .int k33), (7, .int k30), (6, .int k27), (5, .int k24), (4, .ref (ad (16 + sp_q β x1.toInt))), (0, .ref (ad 0)), (1, .int x1), (2, .int x2), (3, .int x3)]) C dX4_sitting_34 (by decide) rfl ?_
    have key36 : ∀ (fu36 : Nat) (y5 : Int32) (y6 : Int32) (y7 : Int32) (y8 : Int32) (j : Nat), (y8.toInt = (j : Int)) → (j ≤ (sp_row β (sp_q β x1.toInt)).length) → (y5.toInt = sp_sf β (sp_row β (sp_q β x1.toInt)) x2.toInt j) → (y6.toInt = sp_sl β (sp_row β (sp_q β x1.toInt)) x2.toInt j) → (y7.toInt = (sp_sc β (sp_row β (sp_q β x1.toInt)) x2.toInt j : Int)) → ((sp_row β (sp_q β x1.toInt)).length - j < fu36) → sd_Wd X 10 D ad ca σ [(8, .int y8), (7, .int y7), (6, .int y6), (5, .int y5), (4, .ref (ad (16 + sp_q β x1.toInt))), (0, .ref (ad 0)), (1, .int x1), (2, .int x2), (3, .int x3)] 36 [] := by
      intro fu36
      induction fu36 with
      | zero => intro y5 y6 y7 y8 j h8 hj h5 h6 h7 hm36; exact absurd hm36 (Nat.not_lt_zero _)
      | succ fu36 ih36 =>
        intro y5 y6 y7 y8 j h8 hj h5 h6 h7 hm36
        refine sd_iload C dX4_sitting_36 0 rfl ?_
        refine sd_aload C dX4_sitting_38 4 rfl ?_
        refine sd_get C (by omega) (sd_cell_row _ (by omega)) rfl 2 (by decide) rfl wf_X4_106 dX4_sitting_40 ?_
        refine sd_icmp_ge C 94 dX4_sitting_43 (by decide) (fun c43 => ?_) (fun c43 => ?_)
        · have z1 := sp_sc_zero β (sp_row β (sp_q β x1.toInt)) x2.toInt (sp_row β (sp_q β x1.toInt)).length
          have ej : j = (sp_row β (sp_q β x1.toInt)).length := by omega
          rw [← ej] at z1
          refine sd_iload C dX4_sitting_94 1 rfl ?_
          refine sd_if_ne C 103 dX4_sitting_96 (by decide) (fun c96 => ?_) (fun c96 => ?_)
          · refine sd_iload_n C dX4_sitting_103 8 rfl rfl ?_
            have hw104 : x3.toInt = 0 ∨ x3.toInt = 1 ∨ x3.toInt = 2 ∨ x3.toInt = 3 ∨ (x3.toInt ≠ 0 ∧ x3.toInt ≠ 1 ∧ x3.toInt ≠ 2 ∧ x3.toInt ≠ 3) := by omega
            rcases hw104 with w104 | w104 | w104 | w104 | w104
            · refine sd_tableIn C 136 (0) dX4_sitting_104 w104 (by decide) rfl (by decide) ?_
              refine sd_iload C dX4_sitting_136 3 rfl ?_
              exact hret _ _ _ _ dX4_sitting_138 (⟨rfl, by
                  unfold an_sitting
                  rw [if_neg (by omega)]
                  unfold an_sit
                  rw [← ej]
                  repeat' split
                  all_goals omega⟩)
            · refine sd_tableIn C 139 (1) dX4_sitting_104 w104 (by decide) rfl (by decide) ?_
              refine sd_iload C dX4_sitting_139 2 rfl ?_
              exact hret _ _ _ _ dX4_sitting_141 (⟨rfl, by
                  unfold an_sitting
                  rw [if_neg (by omega)]
                  unfold an_sit
                  rw [← ej]
                  repeat' split
                  all_goals omega⟩)
            · refine sd_tableIn C 142 (2) dX4_sitting_104 w104 (by decide) rfl (by decide) ?_
              refine sd_iload C dX4_sitting_142 1 rfl ?_
              exact hret _ _ _ _ dX4_sitting_144 (⟨rfl, by
                  unfold an_sitting
                  rw [if_neg (by omega)]
                  unfold an_sit
                  rw [← ej]
                  repeat' split
                  all_goals omega⟩)
            · refine sd_tableIn C 145 (3) dX4_sitting_104 w104 (by decide) rfl (by decide) ?_
              rcases sp_sl_mem β (sp_row β (sp_q β x1.toInt)) x2.toInt j (by omega) with ⟨z2, -⟩ | ⟨a, b, z2, z3, z4, z5, z6⟩
              · exfalso; omega
              have z7 := hok.2 a (by omega)
              have z8 := hok.2 b (by omega)
              have z9 := hC.2.1 (y6.toInt.toNat) (by omega)
              have z10 := hC.2.1 (y5.toInt.toNat) (by omega)
              have z11 := hG.2.1 (y6.toInt.toNat) (by omega)
              have z12 := hG.2.1 (y5.toInt.toNat) (by omega)
              refine sd_aload_n C dX4_sitting_145 5 rfl rfl ?_
              refine sd_get C (by decide) rfl rfl 0 (by decide) rfl wf_X4_10 dX4_sitting_146 ?_
              refine sd_get C (by decide) rfl rfl 0 (by decide) rfl wf_X4_97 dX4_sitting_149 ?_
              refine sd_iload C dX4_sitting_152 2 rfl ?_
              refine sd_iald C (by decide) rfl (y6.toInt.toNat) ⟨by omega, by omega⟩ dX4_sitting_154 ?_
              refine sd_aload_n C dX4_sitting_155 5 rfl rfl ?_
              refine sd_get C (by decide) rfl rfl 0 (by decide) rfl wf_X4_10 dX4_sitting_156 ?_
              refine sd_get C (by decide) rfl rfl 0 (by decide) rfl wf_X4_97 dX4_sitting_159 ?_
              refine sd_iload C dX4_sitting_162 3 rfl ?_
              refine sd_iald C (by decide) rfl (y5.toInt.toNat) ⟨by omega, by omega⟩ dX4_sitting_164 ?_
              refine sd_isub C dX4_sitting_165 (by omega) (fun z165 ez165 => ?_)
              exact hret _ _ _ _ dX4_sitting_166 (⟨rfl, by
                  unfold an_sitting
                  rw [if_neg (by omega)]
                  unfold an_sit
                  rw [← ej, ← h5, ← h6]
                  repeat' split
                  all_goals omega⟩)
            · refine sd_tableOut C 167 dX4_sitting_104 (by omega) (by decide) ?_
              refine sd_sipush C dX4_sitting_167 (by decide) (fun k167 ek167 => ?_)
              exact hret _ _ _ _ dX4_sitting_170 (⟨rfl, by
                  unfold an_sitting
                  rw [if_neg (by omega)]
                  unfold an_sit
                  rw [← ej]
                  repeat' split
                  all_goals omega⟩)
          · refine sd_sipush C dX4_sitting_99 (by decide) (fun k99 ek99 => ?_)
            exact hret _ _ _ _ dX4_sitting_102 (⟨rfl, by
                unfold an_sitting
                rw [if_neg (by omega)]
                unfold an_sit
                rw [← ej]
                repeat' split
                all_goals omega⟩)
        · have t1 := hW.at (j := j) (by omega)
          have t2 := (sd_CS.at hS hq (j := j) (by omega)).1
          have t3 := sp_sc_le β (sp_row β (sp_q β x1.toInt)) x2.toInt j
          refine sd_aload C dX4_sitting_46 4 rfl ?_
          refine sd_get C (by omega) (sd_cell_row _ (by omega)) rfl 1 (by decide) rfl wf_X4_121 dX4_sitting_48 ?_
          refine sd_iload C dX4_sitting_51 0 rfl ?_
          refine sd_iald C (by omega) (sd_cell_rowA _ (by omega)) (j) ⟨by omega, by omega⟩ dX4_sitting_53 ?_
          refine sd_istore (lv' := [(9, .int (σ (40 + sp_q β x1.toInt) (j))), (8, .int y8), (7, .int y7), (6, .int y6), (5, .int y5), (4, .ref (ad (16 + sp_q β x1.toInt))), (0, .ref (ad 0)), (1, .int x1), (2, .int x2), (3, .int x3)]) C dX4_sitting_54 (by decide) rfl ?_
          refine sd_aload_n C dX4_sitting_56 6 rfl rfl ?_
          refine sd_get C (by decide) rfl rfl 5 (by decide) rfl wf_X4_35 dX4_sitting_57 ?_
          refine sd_iload C dX4_sitting_60 0 rfl ?_
          refine sd_iald C (by decide) rfl ((sp_row β (sp_q β x1.toInt)).getD j 0) ⟨by omega, by omega⟩ dX4_sitting_62 ?_
          refine sd_iload_n C dX4_sitting_63 8 rfl rfl ?_
          refine sd_icmp_ne C 88 dX4_sitting_64 (by decide) (fun c64 => ?_) (fun c64 => ?_)
          · refine sd_iinc C dX4_sitting_88 1 rfl (by decide) (by decide) (by omega) (fun zz => [(8, .int zz), (9, .int (σ (40 + sp_q β x1.toInt) (j))), (7, .int y7), (6, .int y6), (5, .int y5), (4, .ref (ad (16 + sp_q β x1.toInt))), (0, .ref (ad 0)), (1, .int x1), (2, .int x2), (3, .int x3)]) (fun _ => rfl) (fun u88 eu88 => ?_)
            refine sd_goto C 36 dX4_sitting_91 (by decide) ?_
            exact sd_lv (ih36 y5 y6 y7 u88 (j + 1) (by omega) (by omega) (by rw [sp_sf]; split <;> omega) (by rw [sp_sl]; split <;> omega) (by rw [sp_sc]; split <;> omega) (by omega)) [0, 2, 3, 4, 5, 6, 7, 8, 9] rfl
          · refine sd_iload C dX4_sitting_67 2 rfl ?_
            refine sd_if_ne C 77 dX4_sitting_69 (by decide) (fun c69 => ?_) (fun c69 => ?_)
            · refine sd_iload C dX4_sitting_77 4 rfl ?_
              refine sd_istore (lv' := [(5, .int y5), (9, .int (σ (40 + sp_q β x1.toInt) (j))), (8, .int y8), (7, .int y7), (6, .int y6), (4, .ref (ad (16 + sp_q β x1.toInt))), (0, .ref (ad 0)), (1, .int x1), (2, .int x2), (3, .int x3)]) C dX4_sitting_79 (by decide) rfl ?_
              refine sd_iload C dX4_sitting_81 1 rfl ?_
              refine sd_istore (lv' := [(6, .int (σ (40 + sp_q β x1.toInt) (j))), (5, .int y5), (9, .int (σ (40 + sp_q β x1.toInt) (j))), (8, .int y8), (7, .int y7), (4, .ref (ad (16 + sp_q β x1.toInt))), (0, .ref (ad 0)), (1, .int x1), (2, .int x2), (3, .int x3)]) C dX4_sitting_83 (by decide) rfl ?_
              refine sd_iinc C dX4_sitting_85 4 rfl (by decide) (by decide) (by omega) (fun zz => [(7, .int zz), (6, .int (σ (40 + sp_q β x1.toInt) (j))), (5, .int y5), (9, .int (σ (40 + sp_q β x1.toInt) (j))), (8, .int y8), (4, .ref (ad (16 + sp_q β x1.toInt))), (0, .ref (ad 0)), (1, .int x1), (2, .int x2), (3, .int x3)]) (fun _ => rfl) (fun u85 eu85 => ?_)
              refine sd_iinc C dX4_sitting_88 4 rfl (by decide) (by decide) (by omega) (fun zz => [(8, .int zz), (7, .int u85), (6, .int (σ (40 + sp_q β x1.toInt) (j))), (5, .int y5), (9, .int (σ (40 + sp_q β x1.toInt) (j))), (4, .ref (ad (16 + sp_q β x1.toInt))), (0, .ref (ad 0)), (1, .int x1), (2, .int x2), (3, .int x3)]) (fun _ => rfl) (fun u88 eu88 => ?_)
              refine sd_goto C 36 dX4_sitting_91 (by decide) ?_
              exact sd_lv (ih36 y5 (σ (40 + sp_q β x1.toInt) (j)) u85 u88 (j + 1) (by omega) (by omega) (by rw [sp_sf]; split <;> omega) (by rw [sp_sl]; split <;> omega) (by rw [sp_sc]; split <;> omega) (by omega)) [0, 1, 2, 3, 5, 6, 7, 8, 9] rfl
            · refine sd_iload C dX4_sitting_72 0 rfl ?_
              refine sd_goto C 79 dX4_sitting_74 (by decide) ?_
              refine sd_istore (lv' := [(5, .int (σ (40 + sp_q β x1.toInt) (j))), (9, .int (σ (40 + sp_q β x1.toInt) (j))), (8, .int y8), (7, .int y7), (6, .int y6), (4, .ref (ad (16 + sp_q β x1.toInt))), (0, .ref (ad 0)), (1, .int x1), (2, .int x2), (3, .int x3)]) C dX4_sitting_79 (by decide) rfl ?_
              refine sd_iload C dX4_sitting_81 1 rfl ?_
              refine sd_istore (lv' := [(6, .int (σ (40 + sp_q β x1.toInt) (j))), (5, .int (σ (40 + sp_q β x1.toInt) (j))), (9, .int (σ (40 + sp_q β x1.toInt) (j))), (8, .int y8), (7, .int y7), (4, .ref (ad (16 + sp_q β x1.toInt))), (0, .ref (ad 0)), (1, .int x1), (2, .int x2), (3, .int x3)]) C dX4_sitting_83 (by decide) rfl ?_
              refine sd_iinc C dX4_sitting_85 4 rfl (by decide) (by decide) (by omega) (fun zz => [(7, .int zz), (6, .int (σ (40 + sp_q β x1.toInt) (j))), (5, .int (σ (40 + sp_q β x1.toInt) (j))), (9, .int (σ (40 + sp_q β x1.toInt) (j))), (8, .int y8), (4, .ref (ad (16 + sp_q β x1.toInt))), (0, .ref (ad 0)), (1, .int x1), (2, .int x2), (3, .int x3)]) (fun _ => rfl) (fun u85 eu85 => ?_)
              refine sd_iinc C dX4_sitting_88 4 rfl (by decide) (by decide) (by omega) (fun zz => [(8, .int zz), (7, .int u85), (6, .int (σ (40 + sp_q β x1.toInt) (j))), (5, .int (σ (40 + sp_q β x1.toInt) (j))), (9, .int (σ (40 + sp_q β x1.toInt) (j))), (4, .ref (ad (16 + sp_q β x1.toInt))), (0, .ref (ad 0)), (1, .int x1), (2, .int x2), (3, .int x3)]) (fun _ => rfl) (fun u88 eu88 => ?_)
              refine sd_goto C 36 dX4_sitting_91 (by decide) ?_
              exact sd_lv (ih36 (σ (40 + sp_q β x1.toInt) (j)) (σ (40 + sp_q β x1.toInt) (j)) u85 u88 (j + 1) (by omega) (by omega) (by rw [sp_sf]; split <;> omega) (by rw [sp_sl]; split <;> omega) (by rw [sp_sc]; split <;> omega) (by omega)) [0, 1, 2, 3, 5, 6, 7, 8, 9] rfl
    exact key36 _ k24 k27 k30 k33 0 (by omega) (by omega) (by rw [sp_sf]; exact ek24) (by rw [sp_sl]; exact ek27) (by rw [sp_sc]; exact ek30) (Nat.lt_succ_self _)
  · refine sd_sipush C dX4_sitting_7 (by decide) (fun k7 ek7 => ?_)
    exact hret _ _ _ _ dX4_sitting_10 (⟨rfl, by
        unfold an_sitting
        rw [if_pos (by omega)]
        omega⟩)

def fTk (a : Nat) (b : Unit) (x : Int) (β : sp_B) (f : Nat) (r : Int32) : Prop := ∃ b : Nat, b < 65536 ∧ r.toInt = (b : Int) ∧ ∀ m, m < 16 → b.testBit m = fz_tk (decide (β 8 f = 1)) (β 7 f).toNat (fun j => β 11 (4 * f + j)) x (fun m => a.testBit m) m
set_option maxRecDepth 20000 in
set_option maxHeartbeats 4000000 in
theorem c_X1_open (l : Launch) (D : va_G) (ad : Nat → Nat) (ca : Nat → ClassId) (T : Nat → Nat) (σ : sd_Mem) (f : Nat) (hf : f < 6) (x1 x2 x3 : Int32) (hx1 : x1.toInt = 0 ∨ x1.toInt = 1) : sd_Cv l yX1_open cX1_open 4 0 D ad ca T σ [.ref (ad (64 + f)), .int x1, .int x2, .int x3] (fun σ' => (∀ i k, i ≠ 64 + f → σ' i k = σ i k) ∧ (σ' (64 + f) 1).toInt = 0 ∧ σ' (64 + f) 2 = x1 ∧ σ' (64 + f) 3 = x2 ∧ σ' (64 + f) 4 = x3) := by
  refine sd_ent_v (own := RX1) (by decide) rfl (Nat.le_of_ble_eq_true rfl) (fun X C hret => ?_)
  show sd_Wd X 4 D ad ca σ [(0, .ref (ad (64 + f))), (1, .int x1), (2, .int x2), (3, .int x3)] 0 []
  refine sd_aload_n C dX1_open_0 0 rfl rfl ?_
  refine sd_iload_n C dX1_open_1 1 rfl rfl ?_
  refine sd_put C (ty := .boolean) (by omega) (sd_cell_fun _ (by omega)) rfl 2 (by decide) rfl (by decide +kernel) (sd_nb (by omega)) (sd_fb (by omega)) (Nat.le_of_ble_eq_true rfl) (fun _ => by rw [sd_cell_fun _ (by omega)]; rfl) wf_X1_15 dX1_open_2 (fun s2 es2 => ?_)
  refine sd_aload_n C dX1_open_5 0 rfl rfl ?_
  refine sd_iload_n C dX1_open_6 2 rfl rfl ?_
  refine sd_put C (ty := .int) (by omega) (sd_cell_fun _ (by omega)) rfl 3 (by decide) rfl (by decide +kernel) rfl rfl (Nat.le_of_ble_eq_true rfl) (fun _ => by rw [sd_cell_fun _ (by omega)]; rfl) wf_X1_19 dX1_open_7 (fun s7 es7 => ?_)
  refine sd_aload_n C dX1_open_10 0 rfl rfl ?_
  refine sd_iload_n C dX1_open_11 3 rfl rfl ?_
  refine sd_put C (ty := .int) (by omega) (sd_cell_fun _ (by omega)) rfl 4 (by decide) rfl (by decide +kernel) rfl rfl (Nat.le_of_ble_eq_true rfl) (fun _ => by rw [sd_cell_fun _ (by omega)]; rfl) wf_X1_23 dX1_open_12 (fun s12 es12 => ?_)
  refine sd_aload_n C dX1_open_15 0 rfl rfl ?_
  refine sd_iconst C dX1_open_16 (by decide) (fun k16 ek16 => ?_)
  refine sd_put C (ty := .int) (by omega) (sd_cell_fun _ (by omega)) rfl 1 (by decide) rfl (by decide +kernel) rfl rfl (Nat.le_of_ble_eq_true rfl) (fun _ => by rw [sd_cell_fun _ (by omega)]; rfl) wf_X1_26 dX1_open_17 (fun s17 es17 => ?_)
  exact hret _ _ _ dX1_open_20 (by
      refine ⟨fun i k h => ?_, ?_, ?_, ?_, ?_⟩
      · rw [es17, sd_st_ne h, es12, sd_st_ne h, es7, sd_st_ne h, es2, sd_st_ne h]
      · rw [es17, sd_st_at]; exact ek16
      · rw [es17, sd_st_nk (by decide), es12, sd_st_nk (by decide), es7, sd_st_nk (by decide), es2, sd_st_at]
      · rw [es17, sd_st_nk (by decide), es12, sd_st_nk (by decide), es7, sd_st_at]
      · rw [es17, sd_st_nk (by decide), es12, sd_st_at])

set_option maxRecDepth 20000 in
set_option maxHeartbeats 4000000 in
theorem c_X4_funnel (l : Launch) (D : va_G) (ad : Nat → Nat) (ca : Nat → ClassId) (T : Nat → Nat) (σ : sd_Mem) (β : sp_B) (hS : sd_CS σ β) (x1 x2 x3 : Int32) (hx1 : x1.toInt = 0 ∨ x1.toInt = 1) : sd_Ci l yX4_funnel cX4_funnel 4 1 D ad ca T σ [.ref (ad 0), .int x1, .int x2, .int x3] (fun r σ' => r.toInt = an_funnel β x2.toInt x3.toInt ∧ sd_CS σ' (up_funnel β x1.toInt x2.toInt x3.toInt) ∧ sd_hi σ σ') := by
  refine sd_ent_i (own := RX4) (by decide) rfl (Nat.le_of_ble_eq_true rfl) (fun X C hret => ?_)
  show sd_Wd X 4 D ad ca σ [(0, .ref (ad 0)), (1, .int x1), (2, .int x2), (3, .int x3)] 0 []
  obtain ⟨hC, hG, hB, hL⟩ := id hS
  have n2 := hC.1.2
  have n3 := hG.1
  refine sd_iload_n C dX4_funnel_0 2 rfl rfl ?_
  refine sd_if_lt C 22 dX4_funnel_1 (by decide) (fun c1 => ?_) (fun c1 => ?_)
  · refine sd_sipush C dX4_funnel_22 (by decide) (fun k22 ek22 => ?_)
    exact hret _ _ _ _ dX4_funnel_25 (⟨by
        unfold an_funnel
        repeat' split
        all_goals omega, by
        unfold up_funnel
        rw [if_pos (by omega)]; exact hS, fun _ _ _ => rfl⟩)
  · refine sd_iload_n C dX4_funnel_4 2 rfl rfl ?_
    refine sd_ldc C dX4_funnel_5 wk_X4_140 (n := 100000) (by decide) (fun k5 ek5 => ?_)
    refine sd_icmp_gt C 22 dX4_funnel_7 (by decide) (fun c7 => ?_) (fun c7 => ?_)
    · refine sd_sipush C dX4_funnel_22 (by decide) (fun k22 ek22 => ?_)
      exact hret _ _ _ _ dX4_funnel_25 (⟨by
          unfold an_funnel
          repeat' split
          all_goals omega, by
          unfold up_funnel
          rw [if_pos (by omega)]; exact hS, fun _ _ _ => rfl⟩)
    · refine sd_iload_n C dX4_funnel_10 3 rfl rfl ?_
      refine sd_iconst C dX4_funnel_11 (by decide) (fun k11 ek11 => ?_)
      refine sd_icmp_eq C 26 dX4_funnel_12 (by decide) (fun c12 => ?_) (fun c12 => ?_)
      · refine sd_aload_n C dX4_funnel_26 0 rfl rfl ?_
        refine sd_get C (by decide) rfl rfl 7 (by decide) rfl wf_X4_45 dX4_funnel_27 ?_
        refine sd_bipush C dX4_funnel_30 (by decide) (fun k30 ek30 => ?_)
        refine sd_icmp_lt C 39 dX4_funnel_32 (by decide) (fun c32 => ?_) (fun c32 => ?_)
        · refine sd_aload_n C dX4_funnel_39 0 rfl rfl ?_
          refine sd_get C (by decide) rfl rfl 6 (by decide) rfl wf_X4_40 dX4_funnel_40 ?_
          refine sd_aload_n C dX4_funnel_43 0 rfl rfl ?_
          refine sd_get C (by decide) rfl rfl 7 (by decide) rfl wf_X4_45 dX4_funnel_44 ?_
          refine sd_aald12 C ((β 0 1).toNat) ⟨by omega, by omega⟩ dX4_funnel_47 ?_
          refine sd_iload_n C dX4_funnel_48 1 rfl rfl ?_
          refine sd_iload_n C dX4_funnel_49 2 rfl rfl ?_
          refine sd_iload_n C dX4_funnel_50 3 rfl rfl ?_
          refine sd_callVv C (c_X1_open l D ad ca T σ (β 0 1).toNat (by omega) x1 x2 x3 hx1) mv_X1_open wm_X4_141 (by omega) (sd_cell_fun _ (by omega)) rfl (by decide) rfl rfl (Nat.le_of_ble_eq_true rfl) dX4_funnel_51 (fun s51 h51 => ?_)
          try dsimp only at h51
          have f0 : s51 0 7 = σ 0 7 := h51.1 0 7 (by omega)
          refine sd_aload_n C dX4_funnel_54 0 rfl rfl ?_
          refine sd_dup C dX4_funnel_55 rfl ?_
          refine sd_get C (by decide) rfl rfl 7 (by decide) rfl wf_X4_45 dX4_funnel_56 ?_
          refine sd_iconst C dX4_funnel_59 (by decide) (fun k59 ek59 => ?_)
          refine sd_iadd C dX4_funnel_60 (by rw [f0]; omega) (fun z60 ez60 => ?_)
          refine sd_put C (ty := .int) (by decide) rfl rfl 7 (by decide) rfl (by decide +kernel) rfl rfl (Nat.le_of_ble_eq_true rfl) (fun _ => rfl) wf_X4_45 dX4_funnel_61 (fun s61 es61 => ?_)
          have f1 : s61 0 7 = z60 := by rw [es61, sd_st_at]
          refine sd_aload_n C dX4_funnel_64 0 rfl rfl ?_
          refine sd_get C (by decide) rfl rfl 7 (by decide) rfl wf_X4_45 dX4_funnel_65 ?_
          refine sd_iconst C dX4_funnel_68 (by decide) (fun k68 ek68 => ?_)
          refine sd_isub C dX4_funnel_69 (by rw [f1, ez60, f0]; omega) (fun z69 ez69 => ?_)
          exact hret _ _ _ _ dX4_funnel_70 (by
              rw [f0] at ez60
              rw [f1] at ez69
              obtain ⟨g1, g2, g3, g4, g5⟩ := h51
              have fr : ∀ i k, i ≠ 64 + (β 0 1).toNat → ¬ (i = 0 ∧ k = 7) → s61 i k = σ i k := by
                intro i k q1 q2
                rw [es61]
                by_cases q : i = 0
                · subst q; rw [sd_st_nk (fun e => q2 ⟨rfl, e⟩)]; exact g1 _ k q1
                · rw [sd_st_ne q]; exact g1 i k q1
              refine ⟨?_, ?_, fun i k hi => fr i k (by omega) (by omega)⟩
              · unfold an_funnel
                repeat' split
                all_goals omega
              · unfold up_funnel
                rw [if_neg (by omega)]
                refine sd_CS_fun hS ?_ (fun a q1 q2 => ?_) (sd_CR_funnel hC hG (f := (β 0 1).toNat) (by omega) (by omega) fr (by rw [f1]; omega) ?_ ?_ ?_ ?_) (sd_RG_funnel hG (by omega) hx1 (by omega) (by omega)) (fun i k q1 q2 => fr i k (by omega) (by omega))
                · unfold b_funnel; simp only [b_set]; simp
                · unfold b_funnel; rw [b_n1 (by omega), b_n1 (by omega), b_n1 (by omega), b_n1 (by omega), b_n1 (by omega)]
                · rw [es61, sd_st_ne (by omega)]; exact g2
                · rw [es61, sd_st_ne (by omega)]; exact g3
                · rw [es61, sd_st_ne (by omega)]; exact g4
                · rw [es61, sd_st_ne (by omega)]; exact g5)
        · refine sd_sipush C dX4_funnel_35 (by decide) (fun k35 ek35 => ?_)
          exact hret _ _ _ _ dX4_funnel_38 (⟨by
              unfold an_funnel
              repeat' split
              all_goals omega, by
              unfold up_funnel
              rw [if_pos (by omega)]; exact hS, fun _ _ _ => rfl⟩)
      · refine sd_iload_n C dX4_funnel_15 3 rfl rfl ?_
        refine sd_pSz C (c_X4_isSort l D ad ca T σ x3) mv_X4_isSort wm_X4_61 (by decide) rfl rfl (Nat.le_of_ble_eq_true rfl) dX4_funnel_16 (fun r16 h16 => ?_)
        try dsimp only at h16
        refine sd_if_ne C 26 dX4_funnel_19 (by decide) (fun c19 => ?_) (fun c19 => ?_)
        · refine sd_aload_n C dX4_funnel_26 0 rfl rfl ?_
          refine sd_get C (by decide) rfl rfl 7 (by decide) rfl wf_X4_45 dX4_funnel_27 ?_
          refine sd_bipush C dX4_funnel_30 (by decide) (fun k30 ek30 => ?_)
          refine sd_icmp_lt C 39 dX4_funnel_32 (by decide) (fun c32 => ?_) (fun c32 => ?_)
          · refine sd_aload_n C dX4_funnel_39 0 rfl rfl ?_
            refine sd_get C (by decide) rfl rfl 6 (by decide) rfl wf_X4_40 dX4_funnel_40 ?_
            refine sd_aload_n C dX4_funnel_43 0 rfl rfl ?_
            refine sd_get C (by decide) rfl rfl 7 (by decide) rfl wf_X4_45 dX4_funnel_44 ?_
            refine sd_aald12 C ((β 0 1).toNat) ⟨by omega, by omega⟩ dX4_funnel_47 ?_
            refine sd_iload_n C dX4_funnel_48 1 rfl rfl ?_
            refine sd_iload_n C dX4_funnel_49 2 rfl rfl ?_
            refine sd_iload_n C dX4_funnel_50 3 rfl rfl ?_
            refine sd_callVv C (c_X1_open l D ad ca T σ (β 0 1).toNat (by omega) x1 x2 x3 hx1) mv_X1_open wm_X4_141 (by omega) (sd_cell_fun _ (by omega)) rfl (by decide) rfl rfl (Nat.le_of_ble_eq_true rfl) dX4_funnel_51 (fun s51 h51 => ?_)
            try dsimp only at h51
            have f0 : s51 0 7 = σ 0 7 := h51.1 0 7 (by omega)
            refine sd_aload_n C dX4_funnel_54 0 rfl rfl ?_
            refine sd_dup C dX4_funnel_55 rfl ?_
            refine sd_get C (by decide) rfl rfl 7 (by decide) rfl wf_X4_45 dX4_funnel_56 ?_
            refine sd_iconst C dX4_funnel_59 (by decide) (fun k59 ek59 => ?_)
            refine sd_iadd C dX4_funnel_60 (by rw [f0]; omega) (fun z60 ez60 => ?_)
            refine sd_put C (ty := .int) (by decide) rfl rfl 7 (by decide) rfl (by decide +kernel) rfl rfl (Nat.le_of_ble_eq_true rfl) (fun _ => rfl) wf_X4_45 dX4_funnel_61 (fun s61 es61 => ?_)
            have f1 : s61 0 7 = z60 := by rw [es61, sd_st_at]
            refine sd_aload_n C dX4_funnel_64 0 rfl rfl ?_
            refine sd_get C (by decide) rfl rfl 7 (by decide) rfl wf_X4_45 dX4_funnel_65 ?_
            refine sd_iconst C dX4_funnel_68 (by decide) (fun k68 ek68 => ?_)
            refine sd_isub C dX4_funnel_69 (by rw [f1, ez60, f0]; omega) (fun z69 ez69 => ?_)
            exact hret _ _ _ _ dX4_funnel_70 (by
                rw [f0] at ez60
                rw [f1] at ez69
                obtain ⟨g1, g2, g3, g4, g5⟩ := h51
                have fr : ∀ i k, i ≠ 64 + (β 0 1).toNat → ¬ (i = 0 ∧ k = 7) → s61 i k = σ i k := by
                  intro i k q1 q2
                  rw [es61]
                  by_cases q : i = 0
                  · subst q; rw [sd_st_nk (fun e => q2 ⟨rfl, e⟩)]; exact g1 _ k q1
                  · rw [sd_st_ne q]; exact g1 i k q1
                refine ⟨?_, ?_, fun i k hi => fr i k (by omega) (by omega)⟩
                · unfold an_funnel
                  repeat' split
                  all_goals omega
                · unfold up_funnel
                  rw [if_neg (by omega)]
                  refine sd_CS_fun hS ?_ (fun a q1 q2 => ?_) (sd_CR_funnel hC hG (f := (β 0 1).toNat) (by omega) (by omega) fr (by rw [f1]; omega) ?_ ?_ ?_ ?_) (sd_RG_funnel hG (by omega) hx1 (by omega) (by omega)) (fun i k q1 q2 => fr i k (by omega) (by omega))
                  · unfold b_funnel; simp only [b_set]; simp
                  · unfold b_funnel; rw [b_n1 (by omega), b_n1 (by omega), b_n1 (by omega), b_n1 (by omega), b_n1 (by omega)]
                  · rw [es61, sd_st_ne (by omega)]; exact g2
                  · rw [es61, sd_st_ne (by omega)]; exact g3
                  · rw [es61, sd_st_ne (by omega)]; exact g4
                  · rw [es61, sd_st_ne (by omega)]; exact g5)
          · refine sd_sipush C dX4_funnel_35 (by decide) (fun k35 ek35 => ?_)
            exact hret _ _ _ _ dX4_funnel_38 (⟨by
                unfold an_funnel
                repeat' split
                all_goals omega, by
                unfold up_funnel
                rw [if_pos (by omega)]; exact hS, fun _ _ _ => rfl⟩)
        · refine sd_sipush C dX4_funnel_22 (by decide) (fun k22 ek22 => ?_)
          exact hret _ _ _ _ dX4_funnel_25 (⟨by
              unfold an_funnel
              repeat' split
              all_goals omega, by
              unfold up_funnel
              rw [if_pos (by omega)]; exact hS, fun _ _ _ => rfl⟩)

set_option maxRecDepth 20000 in
set_option maxHeartbeats 4000000 in
theorem c_X4_step (l : Launch) (D : va_G) (ad : Nat → Nat) (ca : Nat → ClassId) (T : Nat → Nat) (σ : sd_Mem) (β : sp_B) (hS : sd_CS σ β) (x1 x2 : Int32) : sd_Ci l yX4_step cX4_step 4 1 D ad ca T σ [.ref (ad 0), .int x1, .int x2] (fun r σ' => r.toInt = an_step β x1.toInt x2.toInt ∧ sd_CS σ' (up_step β x1.toInt x2.toInt) ∧ sd_hi σ σ') := by
  refine sd_ent_i (own := RX4) (by decide) rfl (Nat.le_of_ble_eq_true rfl) (fun X C hret => ?_)
  show sd_Wd X 4 D ad ca σ [(0, .ref (ad 0)), (1, .int x1), (2, .int x2)] 0 []
  obtain ⟨hC, hG, hB, hL⟩ := id hS
  have n2 := hC.1.2
  have n3 := hG.1
  refine sd_aload_n C dX4_step_0 0 rfl rfl ?_
  refine sd_iload_n C dX4_step_1 1 rfl rfl ?_
  refine sd_pVz C (c_X4_isFunnel l D ad ca T σ x1) mv_X4_isFunnel wm_X4_145 (by decide) rfl rfl (by decide) rfl rfl (Nat.le_of_ble_eq_true rfl) dX4_step_2 (fun r2 h2 => ?_)
  try dsimp only at h2
  refine sd_if_ne C 12 dX4_step_5 (by decide) (fun c5 => ?_) (fun c5 => ?_)
  · refine sd_iload_n C dX4_step_12 2 rfl rfl ?_
    refine sd_pSz C (c_X4_isSort l D ad ca T σ x2) mv_X4_isSort wm_X4_61 (by decide) rfl rfl (Nat.le_of_ble_eq_true rfl) dX4_step_13 (fun r13 h13 => ?_)
    try dsimp only at h13
    refine sd_if_ne C 23 dX4_step_16 (by decide) (fun c16 => ?_) (fun c16 => ?_)
    · have t1 := (hC.2.2.2.2.1 x1.toInt.toNat (by omega)).1
      have t2 := hG.2.2.2.2.1 x1.toInt.toNat (by omega)
      refine sd_aload_n C dX4_step_23 0 rfl rfl ?_
      refine sd_get C (by decide) rfl rfl 6 (by decide) rfl wf_X4_40 dX4_step_24 ?_
      refine sd_iload_n C dX4_step_27 1 rfl rfl ?_
      refine sd_aald12 C (x1.toInt.toNat) ⟨by omega, by omega⟩ dX4_step_28 ?_
      refine sd_astore_n (lv' := [(3, .ref (ad (64 + x1.toInt.toNat))), (0, .ref (ad 0)), (1, .int x1), (2, .int x2)]) C dX4_step_29 rfl (by decide) rfl ?_
      refine sd_aload_n C dX4_step_30 0 rfl rfl ?_
      refine sd_get C (by omega) (sd_cell_fun _ (by omega)) rfl 1 (by decide) rfl wf_X4_148 dX4_step_31 ?_
      refine sd_iconst C dX4_step_34 (by decide) (fun k34 ek34 => ?_)
      refine sd_icmp_lt C 42 dX4_step_35 (by decide) (fun c35 => ?_) (fun c35 => ?_)
      · refine sd_aload_n C dX4_step_42 0 rfl rfl ?_
        refine sd_get C (by omega) (sd_cell_fun _ (by omega)) rfl 0 (by decide) rfl wf_X4_149 dX4_step_43 ?_
        refine sd_aload_n C dX4_step_46 0 rfl rfl ?_
        refine sd_get C (by omega) (sd_cell_fun _ (by omega)) rfl 1 (by decide) rfl wf_X4_148 dX4_step_47 ?_
        refine sd_iload_n C dX4_step_50 3 rfl rfl ?_
        refine sd_iast C (by omega) (fun _ => sd_cell_funA _ (by omega)) ((β 7 x1.toInt.toNat).toNat) ⟨by omega, by omega⟩ dX4_step_51 (fun s51 es51 => ?_)
        have f0 : s51 (64 + x1.toInt.toNat) 1 = σ (64 + x1.toInt.toNat) 1 := by rw [es51, sd_st_ne (by omega)]
        refine sd_aload_n C dX4_step_52 0 rfl rfl ?_
        refine sd_dup C dX4_step_53 rfl ?_
        refine sd_get C (by omega) (sd_cell_fun _ (by omega)) rfl 1 (by decide) rfl wf_X4_148 dX4_step_54 ?_
        refine sd_iconst C dX4_step_57 (by decide) (fun k57 ek57 => ?_)
        refine sd_iadd C dX4_step_58 (by rw [f0]; omega) (fun z58 ez58 => ?_)
        refine sd_put C (ty := .int) (by omega) (sd_cell_fun _ (by omega)) rfl 1 (by decide) rfl (by decide +kernel) rfl rfl (Nat.le_of_ble_eq_true rfl) (fun _ => by rw [sd_cell_fun _ (by omega)]; rfl) wf_X4_148 dX4_step_59 (fun s59 es59 => ?_)
        have f1 : s59 (64 + x1.toInt.toNat) 1 = z58 := by rw [es59, sd_st_at]
        rw [f0] at ez58
        refine sd_aload_n C dX4_step_62 0 rfl rfl ?_
        refine sd_get C (by omega) (sd_cell_fun _ (by omega)) rfl 1 (by decide) rfl wf_X4_148 dX4_step_63 ?_
        exact hret _ _ _ _ dX4_step_66 (by
            have fr : ∀ i k, ¬ (i = 64 + x1.toInt.toNat ∧ k = 1) → ¬ (i = 70 + x1.toInt.toNat ∧ k = (β 7 x1.toInt.toNat).toNat) → s59 i k = σ i k := by
              intro i k q1 q2
              rw [es59, sd_st_eq, if_neg q1, es51, sd_st_eq, if_neg q2]
            refine ⟨?_, ?_, fun i k hi => fr i k (by omega) (by omega)⟩
            · rw [f1]
              unfold an_step
              repeat' split
              all_goals omega
            · unfold up_step
              rw [if_neg (by omega)]
              refine sd_CS_fun hS ?_ (fun a q1 q2 => ?_) (sd_CR_step hC hG (f := x1.toInt.toNat) (z := z58) (by omega) (by omega) fr (by rw [f1]; omega) ?_) (sd_RG_step hG (by omega) (by omega) (by omega)) (fun i k q1 q2 => fr i k (by omega) (by omega))
              · unfold b_step; simp only [b_set]; simp
              · unfold b_step; rw [b_n1 (by omega), b_n1 (by omega)]
              · rw [es59, sd_st_ne (by omega), es51, sd_st_at])
      · refine sd_sipush C dX4_step_38 (by decide) (fun k38 ek38 => ?_)
        exact hret _ _ _ _ dX4_step_41 (⟨by
            unfold an_step
            repeat' split
            all_goals omega, by
            unfold up_step
            rw [if_pos (by omega)]; exact hS, fun _ _ _ => rfl⟩)
    · refine sd_sipush C dX4_step_19 (by decide) (fun k19 ek19 => ?_)
      exact hret _ _ _ _ dX4_step_22 (⟨by
          unfold an_step
          repeat' split
          all_goals omega, by
          unfold up_step
          rw [if_pos (by omega)]; exact hS, fun _ _ _ => rfl⟩)
  · refine sd_sipush C dX4_step_8 (by decide) (fun k8 ek8 => ?_)
    exact hret _ _ _ _ dX4_step_11 (⟨by
        unfold an_step
        repeat' split
        all_goals omega, by
        unfold up_step
        rw [if_pos (by omega)]; exact hS, fun _ _ _ => rfl⟩)

set_option maxRecDepth 20000 in
set_option maxHeartbeats 4000000 in
theorem c_X1_taking (l : Launch) (D : va_G) (ad : Nat → Nat) (ca : Nat → ClassId) (T : Nat → Nat) (σ : sd_Mem) (β : sp_B) (hC : sd_CR σ β) (hG : sd_RG β) (f : Nat) (hf : f < 6) (a : Nat) (ha : a < 65536) (x1 x2 : Int32) (hx1 : x1.toInt = (a : Int)) : sd_Ci l yX1_taking cX1_taking 6 0 D ad ca T σ [.ref (ad (64 + f)), .int x1, .int x2] (fun r σ' => σ' = σ ∧ (fTk a () x2.toInt β f r)) := by
  refine sd_ent_i (own := RX1) (by decide) rfl (Nat.le_of_ble_eq_true rfl) (fun X C hret => ?_)
  show sd_Wd X 6 D ad ca σ [(0, .ref (ad (64 + f))), (1, .int x1), (2, .int x2)] 0 []
  have t1 := hC.2.2.2.2.1 f hf
  have t2 := hG.2.2.2.2.1 f hf
  refine sd_iconst C dX1_taking_0 (by decide) (fun k0 ek0 => ?_)
  refine sd_istore_n (lv' := [(3, .int k0), (0, .ref (ad (64 + f))), (1, .int x1), (2, .int x2)]) C dX1_taking_1 rfl (by decide) rfl ?_
  refine sd_iconst C dX1_taking_2 (by decide) (fun k2 ek2 => ?_)
  refine sd_istore (lv' := [(4, .int k2), (3, .int k0), (0, .ref (ad (64 + f))), (1, .int x1), (2, .int x2)]) C dX1_taking_3 (by decide) rfl ?_
  have key5 : ∀ (fu5 : Nat) (y3 : Int32) (y4 : Int32) (s : Nat) (c : Nat), (y4.toInt = (s : Int)) → (s ≤ (β 7 f).toNat) → (y3.toInt = (c : Int)) → (c < 65536) → (∀ m, m < 16 → c.testBit m = fz_tk (decide (β 8 f = 1)) s (fun j => β 11 (4 * f + j)) x2.toInt (fun m => a.testBit m) m) → ((β 7 f).toNat - s < fu5) → sd_Wd X 6 D ad ca σ [(4, .int y4), (3, .int y3), (0, .ref (ad (64 + f))), (1, .int x1), (2, .int x2)] 5 [] := by
    intro fu5
    induction fu5 with
    | zero => intro y3 y4 s c h4 hs h3 hc3 hb3 hm5; exact absurd hm5 (Nat.not_lt_zero _)
    | succ fu5 ih5 =>
      intro y3 y4 s c h4 hs h3 hc3 hb3 hm5
      refine sd_iload C dX1_taking_5 0 rfl ?_
      refine sd_aload_n C dX1_taking_7 2 rfl rfl ?_
      refine sd_get C (by omega) (sd_cell_fun _ (by omega)) rfl 1 (by decide) rfl wf_X1_26 dX1_taking_8 ?_
      refine sd_icmp_ge C 67 dX1_taking_11 (by decide) (fun c11 => ?_) (fun c11 => ?_)
      · refine sd_iload_n C dX1_taking_67 1 rfl rfl ?_
        exact hret _ _ _ _ dX1_taking_68 (⟨rfl, ⟨c, hc3, h3, fun m hm => by rw [hb3 m hm, show s = (β 7 f).toNat by omega]⟩⟩)
      · have t3 := hC.2.2.2.2.2 f s hf (by omega)
        refine sd_aload_n C dX1_taking_14 2 rfl rfl ?_
        refine sd_get C (by omega) (sd_cell_fun _ (by omega)) rfl 0 (by decide) rfl wf_X1_9 dX1_taking_15 ?_
        refine sd_iload C dX1_taking_18 0 rfl ?_
        refine sd_iald C (by omega) (sd_cell_funA _ (by omega)) (s) ⟨by omega, by omega⟩ dX1_taking_20 ?_
        refine sd_iload_n C dX1_taking_21 4 rfl rfl ?_
        refine sd_icmp_ne C 61 dX1_taking_22 (by decide) (fun c22 => ?_) (fun c22 => ?_)
        · refine sd_iinc C dX1_taking_61 0 rfl (by decide) (by decide) (by omega) (fun zz => [(4, .int zz), (3, .int y3), (0, .ref (ad (64 + f))), (1, .int x1), (2, .int x2)]) (fun _ => rfl) (fun u61 eu61 => ?_)
          refine sd_goto C 5 dX1_taking_64 (by decide) ?_
          exact ih5 y3 u61 (s + 1) c (by omega) (by omega) h3 hc3 (fun m hm => by rw [fz_tk_succ, ← hb3 m hm, decide_eq_false (by omega)]; simp) (by omega)
        · refine sd_aload_n C dX1_taking_25 2 rfl rfl ?_
          refine sd_get C (by omega) (sd_cell_fun _ (by omega)) rfl 2 (by decide) rfl wf_X1_15 dX1_taking_26 ?_
          refine sd_if_eq C 41 dX1_taking_29 (by decide) (fun c29 => ?_) (fun c29 => ?_)
          · refine sd_gs3 C wf_X1_32 dX1_taking_41 ?_
            refine sd_iload C dX1_taking_44 0 rfl ?_
            refine sd_tl3 C (s) ⟨by omega, by omega⟩ dX1_taking_46 ?_
            refine sd_istore (lv' := [(5, .int (sd_t3 (s))), (4, .int y4), (3, .int y3), (0, .ref (ad (64 + f))), (1, .int x1), (2, .int x2)]) C dX1_taking_47 (by decide) rfl ?_
            refine sd_iload_n C dX1_taking_49 2 rfl rfl ?_
            refine sd_iload_n C dX1_taking_50 4 rfl rfl ?_
            refine sd_iload C dX1_taking_51 0 rfl ?_
            refine sd_iand C dX1_taking_53 ?_
            refine sd_iconst C dX1_taking_54 (by decide) (fun k54 ek54 => ?_)
            refine sd_iload C dX1_taking_55 1 rfl ?_
            refine sd_ishl C dX1_taking_57 ?_
            refine sd_ishl C dX1_taking_58 ?_
            refine sd_ior C dX1_taking_59 ?_
            obtain ⟨bb, v1, v2, v3⟩ := fz_term (c := sd_t3 s) (od := decide (β 8 f = 1)) hx1 (by omega : s < 4) h4 ek54 (by rw [decide_eq_false (by omega)]; exact fz_fit_t3 s (by omega))
            obtain ⟨v4, v5⟩ := fz_or h3 v2 hc3 v1
            refine sd_istore_n (lv' := [(3, .int (y3 ||| ((x1 &&& (sd_t3 (s))) <<< ((k54 <<< (y4 &&& 31)) &&& 31)))), (5, .int (sd_t3 (s))), (4, .int y4), (0, .ref (ad (64 + f))), (1, .int x1), (2, .int x2)]) C dX1_taking_60 rfl (by decide) rfl ?_
            refine sd_iinc C dX1_taking_61 2 rfl (by decide) (by decide) (by omega) (fun zz => [(4, .int zz), (3, .int (y3 ||| ((x1 &&& (sd_t3 (s))) <<< ((k54 <<< (y4 &&& 31)) &&& 31)))), (5, .int (sd_t3 (s))), (0, .ref (ad (64 + f))), (1, .int x1), (2, .int x2)]) (fun _ => rfl) (fun u61 eu61 => ?_)
            refine sd_goto C 5 dX1_taking_64 (by decide) ?_
            exact sd_lv (ih5 (y3 ||| ((x1 &&& (sd_t3 (s))) <<< ((k54 <<< (y4 &&& 31)) &&& 31))) u61 (s + 1) (c ||| bb) (by omega) (by omega) v4 v5 (fun m hm => by rw [fz_tk_succ, ← hb3 m hm, Nat.testBit_or, v3 m hm, decide_eq_true (by omega : β 11 (4 * f + s) = x2.toInt)]; simp [Bool.and_assoc]) (by omega)) [0, 1, 3, 4, 5] rfl
          · refine sd_gs2 C wf_X1_29 dX1_taking_32 ?_
            refine sd_iload C dX1_taking_35 0 rfl ?_
            refine sd_tl2 C (s) ⟨by omega, by omega⟩ dX1_taking_37 ?_
            refine sd_goto C 47 dX1_taking_38 (by decide) ?_
            refine sd_istore (lv' := [(5, .int (sd_t2 (s))), (4, .int y4), (3, .int y3), (0, .ref (ad (64 + f))), (1, .int x1), (2, .int x2)]) C dX1_taking_47 (by decide) rfl ?_
            refine sd_iload_n C dX1_taking_49 2 rfl rfl ?_
            refine sd_iload_n C dX1_taking_50 4 rfl rfl ?_
            refine sd_iload C dX1_taking_51 0 rfl ?_
            refine sd_iand C dX1_taking_53 ?_
            refine sd_iconst C dX1_taking_54 (by decide) (fun k54 ek54 => ?_)
            refine sd_iload C dX1_taking_55 1 rfl ?_
            refine sd_ishl C dX1_taking_57 ?_
            refine sd_ishl C dX1_taking_58 ?_
            refine sd_ior C dX1_taking_59 ?_
            obtain ⟨bb, v1, v2, v3⟩ := fz_term (c := sd_t2 s) (od := decide (β 8 f = 1)) hx1 (by omega : s < 4) h4 ek54 (by rw [decide_eq_true (by omega)]; exact fz_fit_t2 s (by omega))
            obtain ⟨v4, v5⟩ := fz_or h3 v2 hc3 v1
            refine sd_istore_n (lv' := [(3, .int (y3 ||| ((x1 &&& (sd_t2 (s))) <<< ((k54 <<< (y4 &&& 31)) &&& 31)))), (5, .int (sd_t2 (s))), (4, .int y4), (0, .ref (ad (64 + f))), (1, .int x1), (2, .int x2)]) C dX1_taking_60 rfl (by decide) rfl ?_
            refine sd_iinc C dX1_taking_61 2 rfl (by decide) (by decide) (by omega) (fun zz => [(4, .int zz), (3, .int (y3 ||| ((x1 &&& (sd_t2 (s))) <<< ((k54 <<< (y4 &&& 31)) &&& 31)))), (5, .int (sd_t2 (s))), (0, .ref (ad (64 + f))), (1, .int x1), (2, .int x2)]) (fun _ => rfl) (fun u61 eu61 => ?_)
            refine sd_goto C 5 dX1_taking_64 (by decide) ?_
            exact sd_lv (ih5 (y3 ||| ((x1 &&& (sd_t2 (s))) <<< ((k54 <<< (y4 &&& 31)) &&& 31))) u61 (s + 1) (c ||| bb) (by omega) (by omega) v4 v5 (fun m hm => by rw [fz_tk_succ, ← hb3 m hm, Nat.testBit_or, v3 m hm, decide_eq_true (by omega : β 11 (4 * f + s) = x2.toInt)]; simp [Bool.and_assoc]) (by omega)) [0, 1, 3, 4, 5] rfl
  exact key5 _ k0 k2 0 0 (by omega) (by omega) (by omega) (by omega) (fun m _ => by rw [Nat.zero_testBit]; rfl) (Nat.lt_succ_self _)

set_option maxRecDepth 20000 in
set_option maxHeartbeats 4000000 in
theorem c_X1_hasFirst (l : Launch) (D : va_G) (ad : Nat → Nat) (ca : Nat → ClassId) (T : Nat → Nat) (σ : sd_Mem) (k a : Nat) (hk : k < 5) (ha : a < 65536) (x0 x1 : Int32) (hx0 : x0.toInt = (k : Int)) (hx1 : x1.toInt = (a : Int)) : sd_Cz l yX1_hasFirst cX1_hasFirst 2 0 D ad ca T σ [.int x0, .int x1] (fun r σ' => σ' = σ ∧ ((r.toInt = 1 ∧ a.testBit (2 ^ k - 1) = true) ∨ (r.toInt = 0 ∧ a.testBit (2 ^ k - 1) = false))) := by
  refine sd_ent_z (own := RX1) (by decide) rfl (Nat.le_of_ble_eq_true rfl) (fun X C hret => ?_)
  show sd_Wd X 2 D ad ca σ [(0, .int x0), (1, .int x1)] 0 []
  refine sd_iload_n C dX1_hasFirst_0 1 rfl rfl ?_
  refine sd_iconst C dX1_hasFirst_1 (by decide) (fun k1 ek1 => ?_)
  refine sd_iload_n C dX1_hasFirst_2 0 rfl rfl ?_
  refine sd_ishl C dX1_hasFirst_3 ?_
  have q1 : (k1 <<< (x0 &&& 31)).toInt = ((2 ^ k : Nat) : Int) := by
    rw [sd_nI hx0, sd_nI (a := 1) ek1, sd_shl_one k hk]
    exact nI_toInt (by have := fz_pw k hk; omega)
  have q2 := fz_pw k hk
  refine sd_iconst C dX1_hasFirst_4 (by decide) (fun k4 ek4 => ?_)
  refine sd_isub C dX1_hasFirst_5 (by omega) (fun z5 ez5 => ?_)
  refine sd_ishr C dX1_hasFirst_6 ?_
  refine sd_iconst C dX1_hasFirst_7 (by decide) (fun k7 ek7 => ?_)
  refine sd_iand C dX1_hasFirst_8 ?_
  have q3 := fz_shr (p := 2 ^ k - 1) hx1 ha (z := z5) (by omega) (by omega) ek7
  refine sd_iconst C dX1_hasFirst_9 (by decide) (fun k9 ek9 => ?_)
  refine sd_icmp_ne C 17 dX1_hasFirst_10 (by decide) (fun c10 => ?_) (fun c10 => ?_)
  · refine sd_iconst C dX1_hasFirst_17 (by decide) (fun k17 ek17 => ?_)
    exact hret _ _ _ _ dX1_hasFirst_18 (by omega) (⟨rfl, by
        cases hb : a.testBit (2 ^ k - 1)
        · rw [hb] at q3; simp at q3; exact Or.inr ⟨by omega, rfl⟩
        · rw [hb] at q3; simp at q3; exfalso; omega⟩)
  · refine sd_iconst C dX1_hasFirst_13 (by decide) (fun k13 ek13 => ?_)
    refine sd_goto C 18 dX1_hasFirst_14 (by decide) ?_
    exact hret _ _ _ _ dX1_hasFirst_18 (by omega) (⟨rfl, by
        cases hb : a.testBit (2 ^ k - 1)
        · rw [hb] at q3; simp at q3; exfalso; omega
        · rw [hb] at q3; simp at q3; exact Or.inl ⟨by omega, rfl⟩⟩)

set_option maxRecDepth 20000 in
set_option maxHeartbeats 4000000 in
theorem c_X1_depthOf (l : Launch) (D : va_G) (ad : Nat → Nat) (ca : Nat → ClassId) (T : Nat → Nat) (σ : sd_Mem) (β : sp_B) (hC : sd_CR σ β) (hG : sd_RG β) (f : Nat) (hf : f < 6) (a : Nat) (ha : a < 65536) (x1 : Int32) (hx1 : x1.toInt = (a : Int)) : sd_Ci l yX1_depthOf cX1_depthOf 3 1 D ad ca T σ [.ref (ad (64 + f)), .int x1] (fun r σ' => σ' = σ ∧ (r.toInt = (fz_dp a (β 7 f).toNat : Int))) := by
  refine sd_ent_i (own := RX1) (by decide) rfl (Nat.le_of_ble_eq_true rfl) (fun X C hret => ?_)
  show sd_Wd X 3 D ad ca σ [(0, .ref (ad (64 + f))), (1, .int x1)] 0 []
  have t1 := hC.2.2.2.2.1 f hf
  have t2 := hG.2.2.2.2.1 f hf
  refine sd_aload_n C dX1_depthOf_0 0 rfl rfl ?_
  refine sd_get C (by omega) (sd_cell_fun _ (by omega)) rfl 1 (by decide) rfl wf_X1_26 dX1_depthOf_1 ?_
  refine sd_istore_n (lv' := [(2, .int (σ (64 + f) 1)), (0, .ref (ad (64 + f))), (1, .int x1)]) C dX1_depthOf_4 rfl (by decide) rfl ?_
  have key5 : ∀ (fu5 : Nat) (y2 : Int32) (k : Nat), (y2.toInt = (k : Int)) → (k ≤ (β 7 f).toNat) → (fz_dp a (β 7 f).toNat = fz_dp a k) → (k < fu5) → sd_Wd X 3 D ad ca σ [(2, .int y2), (0, .ref (ad (64 + f))), (1, .int x1)] 5 [] := by
    intro fu5
    induction fu5 with
    | zero => intro y2 k h2 hk hd hm5; exact absurd hm5 (Nat.not_lt_zero _)
    | succ fu5 ih5 =>
      intro y2 k h2 hk hd hm5
      refine sd_iload_n C dX1_depthOf_5 0 rfl rfl ?_
      refine sd_if_le C 29 dX1_depthOf_6 (by decide) (fun c6 => ?_) (fun c6 => ?_)
      · refine sd_iconst C dX1_depthOf_29 (by decide) (fun k29 ek29 => ?_)
        exact hret _ _ _ _ dX1_depthOf_30 (⟨rfl, by
            rw [hd]
            first
              | (have e : k = 0 := by omega
                 subst e
                 rw [fz_dp]; omega)
              | (have e : a = 0 := by omega
                 subst e
                 rw [fz_dp_0]; omega)⟩)
      · refine sd_iload_n C dX1_depthOf_9 2 rfl rfl ?_
        refine sd_if_eq C 29 dX1_depthOf_10 (by decide) (fun c10 => ?_) (fun c10 => ?_)
        · refine sd_iconst C dX1_depthOf_29 (by decide) (fun k29 ek29 => ?_)
          exact hret _ _ _ _ dX1_depthOf_30 (⟨rfl, by
              rw [hd]
              first
                | (have e : k = 0 := by omega
                   subst e
                   rw [fz_dp]; omega)
                | (have e : a = 0 := by omega
                   subst e
                   rw [fz_dp_0]; omega)⟩)
        · refine sd_iload_n C dX1_depthOf_13 0 rfl rfl ?_
          refine sd_iload_n C dX1_depthOf_14 2 rfl rfl ?_
          refine sd_pSz C (c_X1_hasFirst l D ad ca T σ k a (by omega) ha y2 x1 h2 hx1) mv_X1_hasFirst wm_X1_35 (by decide) rfl rfl (Nat.le_of_ble_eq_true rfl) dX1_depthOf_15 (fun r15 h15 => ?_)
          try dsimp only at h15
          refine sd_if_eq C 23 dX1_depthOf_18 (by decide) (fun c18 => ?_) (fun c18 => ?_)
          · refine sd_iinc C dX1_depthOf_23 0 rfl (by decide) (by decide) (by omega) (fun zz => [(2, .int zz), (0, .ref (ad (64 + f))), (1, .int x1)]) (fun _ => rfl) (fun u23 eu23 => ?_)
            refine sd_goto C 5 dX1_depthOf_26 (by decide) ?_
            exact ih5 u23 (k - 1) (by omega) (by omega) (by
                  rw [hd]
                  obtain ⟨k', e⟩ : ∃ k', k = k' + 1 := ⟨k - 1, by omega⟩
                  subst e
                  rcases h15 with w | w
                  · exact absurd w.1 (by omega)
                  · rw [fz_dp, w.2]; rfl) (by omega)
          · refine sd_iload_n C dX1_depthOf_21 0 rfl rfl ?_
            exact hret _ _ _ _ dX1_depthOf_22 (⟨rfl, by
                rw [hd]
                obtain ⟨k', e⟩ : ∃ k', k = k' + 1 := ⟨k - 1, by omega⟩
                subst e
                rcases h15 with w | w
                · rw [fz_dp, w.2]; exact h2
                · exact absurd w.1 (by omega)⟩)
  exact key5 _ (σ (64 + f) 1) (β 7 f).toNat (by omega) (Nat.le_refl _) rfl (Nat.lt_succ_self _)

set_option maxRecDepth 20000 in
set_option maxHeartbeats 4000000 in
theorem c_X3_seekFrom (l : Launch) (D : va_G) (ad : Nat → Nat) (ca : Nat → ClassId) (T : Nat → Nat) (σ : sd_Mem) (β : sp_B) (q : Nat) (l9 : List Nat) (hW : sd_RW σ β q l9) (hq : q < 24) (f : Nat) (hf : f < 6) (a : Nat) (ha : a < l9.length) (x1 : Int32) (hx1 : x1.toInt = (a : Int)) : sd_Cv l yX3_seekFrom cX3_seekFrom 10 2 D ad ca T σ [.ref (ad 13), .int x1, .ref (ad (64 + f)), .ref (ad (16 + q))] (fun σ' => (∀ i k, i ≠ 13 → σ' i k = σ i k) ∧ (∀ k, k ≠ 2 → k ≠ 3 → σ' 13 k = σ 13 k) ∧ (σ' 13 2).toInt = (fD β f l9 a : Int) ∧ (σ' 13 3).toInt = fEi β f l9 a) := by
  refine sd_ent_v (own := RX3) (by decide) rfl (Nat.le_of_ble_eq_true rfl) (fun X C hret => ?_)
  show sd_Wd X 10 D ad ca σ [(0, .ref (ad 13)), (1, .int x1), (2, .ref (ad (64 + f))), (3, .ref (ad (16 + q)))] 0 []
  have hz := hW.2.2.1.1
  have hl9 := hW.2.2.2.1
  have t1 := hW.1.2.2.2.2.1 f hf
  have t2 := hW.2.1.2.2.2.2.1 f hf
  refine sd_aload_n C dX3_seekFrom_0 0 rfl rfl ?_
  refine sd_iconst C dX3_seekFrom_1 (by decide) (fun k1 ek1 => ?_)
  refine sd_put C (ty := .int) (by decide) rfl rfl 2 (by decide) rfl (by decide +kernel) rfl rfl (Nat.le_of_ble_eq_true rfl) (fun _ => rfl) wf_X3_41 dX3_seekFrom_2 (fun s2 es2 => ?_)
  have e2 : s2 13 2 = k1 := by rw [es2, sd_st_at]
  refine sd_aload_n C dX3_seekFrom_5 0 rfl rfl ?_
  refine sd_iconst C dX3_seekFrom_6 (by decide) (fun k6 ek6 => ?_)
  refine sd_put C (ty := .int) (by decide) rfl rfl 3 (by decide) rfl (by decide +kernel) rfl rfl (Nat.le_of_ble_eq_true rfl) (fun _ => rfl) wf_X3_32 dX3_seekFrom_7 (fun s7 es7 => ?_)
  have sk7 : sd_sk σ s7 := by rw [es7, es2]; exact ((sd_sk.rf σ).st (Or.inl rfl)).st (Or.inl rfl)
  have hW7 := sd_RW_sk sk7 hW
  have t3 := hW7.1.2.2.2.2.1 f hf
  have hat := hW.at (j := a) ha
  refine sd_iconst C dX3_seekFrom_10 (by decide) (fun k10 ek10 => ?_)
  refine sd_istore (lv' := [(4, .int k10), (0, .ref (ad 13)), (1, .int x1), (2, .ref (ad (64 + f))), (3, .ref (ad (16 + q)))]) C dX3_seekFrom_11 (by decide) rfl ?_
  refine sd_aload_n C dX3_seekFrom_13 4 rfl rfl ?_
  refine sd_iload_n C dX3_seekFrom_14 2 rfl rfl ?_
  refine sd_pVi C (c_X2_timeAt l D ad ca T s7 β q a l9 hW7 hq x1 hx1 ha) mv_X2_timeAt wm_X3_24 (by omega) (sd_cell_row _ (by omega)) rfl (by decide) rfl rfl (Nat.le_of_ble_eq_true rfl) dX3_seekFrom_15 (fun r15 h15 => ?_)
  try dsimp only at h15
  refine sd_aload_n C dX3_seekFrom_18 3 rfl rfl ?_
  refine sd_get C (by omega) (sd_cell_fun _ (by omega)) rfl 3 (by decide) rfl wf_X3_35 dX3_seekFrom_19 ?_
  refine sd_iadd C dX3_seekFrom_22 (by omega) (fun z22 ez22 => ?_)
  refine sd_istore (lv' := [(5, .int z22), (4, .int k10), (0, .ref (ad 13)), (1, .int x1), (2, .ref (ad (64 + f))), (3, .ref (ad (16 + q)))]) C dX3_seekFrom_23 (by decide) rfl ?_
  refine sd_iload_n C dX3_seekFrom_25 3 rfl rfl ?_
  refine sd_istore (lv' := [(6, .int x1), (5, .int z22), (4, .int k10), (0, .ref (ad 13)), (1, .int x1), (2, .ref (ad (64 + f))), (3, .ref (ad (16 + q)))]) C dX3_seekFrom_26 (by decide) rfl ?_
  have key28 : ∀ (fu28 : Nat) (y4 : Int32) (y6 : Int32) (i : Nat) (c : Nat) (d : Nat) (τ : sd_Mem), (y6.toInt = (a : Int) + (i : Int)) → (y4.toInt = (c : Int)) → (c < 65536) → (∀ m, m < 16 → c.testBit m = fS β f l9 a i m) → ((τ 13 2).toInt = (d : Int)) → (fI β f l9 a i d) → (d = 0 ∨ d ≠ (β 7 f).toNat) → ((τ 13 3).toInt = -1) → (∀ i k, i ≠ 13 → τ i k = σ i k) → (∀ k, k ≠ 2 → k ≠ 3 → τ 13 k = σ 13 k) → (a + i ≤ l9.length) → (l9.length - i < fu28) → sd_Wd X 10 D ad ca τ [(6, .int y6), (5, .int z22), (4, .int y4), (0, .ref (ad 13)), (1, .int x1), (2, .ref (ad (64 + f))), (3, .ref (ad (16 + q)))] 28 [] := by
    intro fu28
    induction fu28 with
    | zero => intro y4 y6 i c d τ h6 h4 hc3 hbS hd hI hnf hen frt hok hil hm28; exact absurd hm28 (Nat.not_lt_zero _)
    | succ fu28 ih28 =>
      intro y4 y6 i c d τ h6 h4 hc3 hbS hd hI hnf hen frt hok hil hm28
      have skt : sd_sk σ τ := fun i k q1 _ _ => frt i k q1
      have hWt := sd_RW_sk skt hW
      have hzt := hWt.2.2.1.1
      have t4 := hWt.1.2.2.2.2.1 f hf
      have hdl := fI_le hI
      refine sd_iload C dX3_seekFrom_28 0 rfl ?_
      refine sd_aload_n C dX3_seekFrom_30 6 rfl rfl ?_
      refine sd_get C (by omega) (sd_cell_row _ (by omega)) rfl 2 (by decide) rfl wf_X3_18 dX3_seekFrom_31 ?_
      refine sd_icmp_ge C 159 dX3_seekFrom_34 (by decide) (fun c34 => ?_) (fun c34 => ?_)
      · exact hret _ _ _ dX3_seekFrom_159 (by
            have he : ∀ j, fWb β f l9 a j = true → i ≤ j → ∀ m, m < 16 → fT β f l9 a j m = false := fun j w1 w2 => absurd (fW_stop (i := i) (by omega) w1) (by omega)
            refine ⟨frt, hok, ?_, ?_⟩
            · rw [fI_D hI (by omega) he]; exact hd
            · rw [fI_none hI (by omega) he hnf]; exact hen)
      · refine sd_aload_n C dX3_seekFrom_37 6 rfl rfl ?_
        refine sd_iload C dX3_seekFrom_38 0 rfl ?_
        refine sd_pVi C (c_X2_timeAt l D ad ca T τ β q (a + i) l9 hWt hq y6 (by omega) (by omega)) mv_X2_timeAt wm_X3_24 (by omega) (sd_cell_row _ (by omega)) rfl (by decide) rfl rfl (Nat.le_of_ble_eq_true rfl) dX3_seekFrom_40 (fun r40 h40 => ?_)
        try dsimp only at h40
        refine sd_iload C dX3_seekFrom_43 1 rfl ?_
        have t6 := hWt.at (j := a + i) (by omega)
        refine sd_icmp_gt C 159 dX3_seekFrom_45 (by decide) (fun c45 => ?_) (fun c45 => ?_)
        · exact hret _ _ _ dX3_seekFrom_159 (by
              have he : ∀ j, fWb β f l9 a j = true → i ≤ j → ∀ m, m < 16 → fT β f l9 a j m = false := fun j w1 w2 => absurd (fW_stop (i := i) (by omega) w1) (by omega)
              refine ⟨frt, hok, ?_, ?_⟩
              · rw [fI_D hI (by omega) he]; exact hd
              · rw [fI_none hI (by omega) he hnf]; exact hen)
        · refine sd_aload_n C dX3_seekFrom_48 6 rfl rfl ?_
          refine sd_iload C dX3_seekFrom_49 0 rfl ?_
          refine sd_pVi C (c_X2_sortAt l D ad ca T τ β q (a + i) l9 hWt hq y6 (by omega) (by omega)) mv_X2_sortAt wm_X3_50 (by omega) (sd_cell_row _ (by omega)) rfl (by decide) rfl rfl (Nat.le_of_ble_eq_true rfl) dX3_seekFrom_51 (fun r51 h51 => ?_)
          try dsimp only at h51
          refine sd_istore (lv' := [(7, .int r51), (6, .int y6), (5, .int z22), (4, .int y4), (0, .ref (ad 13)), (1, .int x1), (2, .ref (ad (64 + f))), (3, .ref (ad (16 + q)))]) C dX3_seekFrom_54 (by decide) rfl ?_
          refine sd_aload_n C dX3_seekFrom_56 6 rfl rfl ?_
          refine sd_iload C dX3_seekFrom_57 3 rfl ?_
          refine sd_iload C dX3_seekFrom_59 0 rfl ?_
          refine sd_pVi C (c_X1_taking l D ad ca T τ β hWt.1 hWt.2.1 f hf c hc3 y4 r51 h4) mv_X1_taking wm_X3_53 (by omega) (sd_cell_fun _ (by omega)) rfl (by decide) rfl rfl (Nat.le_of_ble_eq_true rfl) dX3_seekFrom_61 (fun r61 h61 => ?_)
          try dsimp only at h61
          obtain ⟨b, hb1, hb2, hb3⟩ := h61
          have hbT := fT_of hbS h51 hb3
          refine sd_istore (lv' := [(8, .int r61), (7, .int r51), (6, .int y6), (5, .int z22), (4, .int y4), (0, .ref (ad 13)), (1, .int x1), (2, .ref (ad (64 + f))), (3, .ref (ad (16 + q)))]) C dX3_seekFrom_64 (by decide) rfl ?_
          refine sd_aload_n C dX3_seekFrom_66 5 rfl rfl ?_
          refine sd_aload_n C dX3_seekFrom_67 5 rfl rfl ?_
          refine sd_get C (by decide) rfl rfl 2 (by decide) rfl wf_X3_41 dX3_seekFrom_68 ?_
          refine sd_aload_n C dX3_seekFrom_71 7 rfl rfl ?_
          refine sd_iload C dX3_seekFrom_72 0 rfl ?_
          refine sd_pVi C (c_X1_depthOf l D ad ca T τ β hWt.1 hWt.2.1 f hf b hb1 r61 hb2) mv_X1_depthOf wm_X3_56 (by omega) (sd_cell_fun _ (by omega)) rfl (by decide) rfl rfl (Nat.le_of_ble_eq_true rfl) dX3_seekFrom_74 (fun r74 h74 => ?_)
          try dsimp only at h74
          refine sd_max C wm_X3_44 (by decide) (Nat.le_of_ble_eq_true rfl) dX3_seekFrom_77 (fun z77 ez77 => ?_)
          refine sd_put C (ty := .int) (by decide) rfl rfl 2 (by decide) rfl (by decide +kernel) rfl rfl (Nat.le_of_ble_eq_true rfl) (fun _ => rfl) wf_X3_41 dX3_seekFrom_80 (fun s80 es80 => ?_)
          obtain ⟨d', hd1, hd2⟩ : ∃ d' : Nat, z77.toInt = (d' : Int) ∧ ((d' = d ∧ fz_dp b (β 7 f).toNat ≤ d) ∨ (d' = fz_dp b (β 7 f).toNat ∧ d < d')) := by
            rcases ez77 with ⟨w1, w2⟩ | ⟨w1, w2⟩
            · rw [w1]; exact ⟨d, hd, Or.inl ⟨rfl, by omega⟩⟩
            · rw [w1]; exact ⟨_, h74, Or.inr ⟨rfl, by omega⟩⟩
          have hwin : fWb β f l9 a i = true := fW_succ hI.2.2.2 (by omega) (by omega)
          have hI2 := fI_step hI (by omega) hwin hbT hd2
          have f80 : s80 13 2 = z77 := by rw [es80, sd_st_at]
          have sk80 : sd_sk σ s80 := by rw [es80]; exact skt.st (Or.inl rfl)
          have t5 := (sd_CR_sk sk80 hW.1).2.2.2.2.1 f hf
          rw [← f80] at hd1
          have g80 : (s80 13 3).toInt = -1 := by rw [es80, sd_st_nk (by decide)]; exact hen
          have o80 : ∀ k, k ≠ 2 → k ≠ 3 → s80 13 k = σ 13 k := fun k q1 q2 => by rw [es80, sd_st_nk q1]; exact hok k q1 q2
          have fr80 : ∀ i k, i ≠ 13 → s80 i k = σ i k := fun i k q => by rw [es80, sd_st_ne q]; exact frt i k q
          refine sd_aload_n C dX3_seekFrom_83 5 rfl rfl ?_
          refine sd_get C (by decide) rfl rfl 2 (by decide) rfl wf_X3_41 dX3_seekFrom_84 ?_
          refine sd_if_le C 108 dX3_seekFrom_87 (by decide) (fun c87 => ?_) (fun c87 => ?_)
          · refine sd_iload C dX3_seekFrom_108 2 rfl ?_
            refine sd_iload_n C dX3_seekFrom_110 6 rfl rfl ?_
            refine sd_icmp_eq C 123 dX3_seekFrom_111 (by decide) (fun c111 => ?_) (fun c111 => ?_)
            · refine sd_iconst C dX3_seekFrom_123 (by decide) (fun k123 ek123 => ?_)
              refine sd_goto C 128 dX3_seekFrom_124 (by decide) ?_
              refine sd_istore (lv' := [(9, .int k123), (8, .int r61), (7, .int r51), (6, .int y6), (5, .int z22), (4, .int y4), (0, .ref (ad 13)), (1, .int x1), (2, .ref (ad (64 + f))), (3, .ref (ad (16 + q)))]) C dX3_seekFrom_128 (by decide) rfl ?_
              refine sd_iload C dX3_seekFrom_130 0 rfl ?_
              refine sd_if_eq C 140 dX3_seekFrom_132 (by decide) (fun c132 => ?_) (fun c132 => ?_)
              · exact absurd c132 (by omega)
              · refine sd_iload C dX3_seekFrom_135 1 rfl ?_
                refine sd_goto C 145 dX3_seekFrom_137 (by decide) ?_
                refine sd_istore (lv' := [(4, .int r61), (9, .int k123), (8, .int r61), (7, .int r51), (6, .int y6), (5, .int z22), (0, .ref (ad 13)), (1, .int x1), (2, .ref (ad (64 + f))), (3, .ref (ad (16 + q)))]) C dX3_seekFrom_145 (by decide) rfl ?_
                obtain ⟨zz, hz1, hz2, hz3⟩ : ∃ zz : Nat, r61.toInt = (zz : Int) ∧ zz < 65536 ∧ ∀ m, m < 16 → zz.testBit m = fS β f l9 a (i + 1) m := ⟨b, hb2, hb1, fS_next hbS hbT (Or.inl ⟨by omega, rfl⟩)⟩
                refine sd_iload C dX3_seekFrom_147 0 rfl ?_
                refine sd_if_ne C 153 dX3_seekFrom_149 (by decide) (fun c149 => ?_) (fun c149 => ?_)
                · refine sd_iinc C dX3_seekFrom_153 4 rfl (by decide) (by decide) (by omega) (fun zz => [(6, .int zz), (4, .int r61), (9, .int k123), (8, .int r61), (7, .int r51), (5, .int z22), (0, .ref (ad 13)), (1, .int x1), (2, .ref (ad (64 + f))), (3, .ref (ad (16 + q)))]) (fun _ => rfl) (fun u153 eu153 => ?_)
                  refine sd_goto C 28 dX3_seekFrom_156 (by decide) ?_
                  exact sd_lv (ih28 r61 u153 (i + 1) zz d' s80 (by omega) hz1 hz2 hz3 hd1 hI2 (by omega) g80 fr80 o80 (by omega) (by omega)) [0, 5, 1, 6, 7, 8, 9] rfl
                · exact hret _ _ _ dX3_seekFrom_152 (by
                      have e0 : zz = 0 := by omega
                      have hdead : ∀ m, m < 16 → fS β f l9 a (i + 1) m = false := fun m hm => by rw [← hz3 m hm, e0, Nat.zero_testBit]
                      have he : ∀ j, fWb β f l9 a j = true → i + 1 ≤ j → ∀ m, m < 16 → fT β f l9 a j m = false := fun j _ w m hm => fT_dead hdead w hm
                      refine ⟨fr80, o80, ?_, ?_⟩
                      · rw [fI_D hI2 (by omega) he]; exact hd1
                      · rw [fI_none hI2 (by omega) he (by omega)]; exact g80)
            · refine sd_iload C dX3_seekFrom_114 1 rfl ?_
              refine sd_aload_n C dX3_seekFrom_116 7 rfl rfl ?_
              refine sd_get C (by omega) (sd_cell_fun _ (by omega)) rfl 4 (by decide) rfl wf_X3_59 dX3_seekFrom_117 ?_
              refine sd_icmp_ne C 127 dX3_seekFrom_120 (by decide) (fun c120 => ?_) (fun c120 => ?_)
              · refine sd_iconst C dX3_seekFrom_127 (by decide) (fun k127 ek127 => ?_)
                refine sd_istore (lv' := [(9, .int k127), (8, .int r61), (7, .int r51), (6, .int y6), (5, .int z22), (4, .int y4), (0, .ref (ad 13)), (1, .int x1), (2, .ref (ad (64 + f))), (3, .ref (ad (16 + q)))]) C dX3_seekFrom_128 (by decide) rfl ?_
                refine sd_iload C dX3_seekFrom_130 0 rfl ?_
                refine sd_if_eq C 140 dX3_seekFrom_132 (by decide) (fun c132 => ?_) (fun c132 => ?_)
                · refine sd_iload C dX3_seekFrom_140 5 rfl ?_
                  refine sd_iload C dX3_seekFrom_142 1 rfl ?_
                  refine sd_ior C dX3_seekFrom_144 ?_
                  refine sd_istore (lv' := [(4, .int (y4 ||| r61)), (9, .int k127), (8, .int r61), (7, .int r51), (6, .int y6), (5, .int z22), (0, .ref (ad 13)), (1, .int x1), (2, .ref (ad (64 + f))), (3, .ref (ad (16 + q)))]) C dX3_seekFrom_145 (by decide) rfl ?_
                  obtain ⟨zz, hz1, hz2, hz3⟩ : ∃ zz : Nat, (y4 ||| r61).toInt = (zz : Int) ∧ zz < 65536 ∧ ∀ m, m < 16 → zz.testBit m = fS β f l9 a (i + 1) m := ⟨c ||| b, (fz_or h4 hb2 hc3 hb1).1, (fz_or h4 hb2 hc3 hb1).2, fS_next hbS hbT (Or.inr ⟨by omega, rfl⟩)⟩
                  refine sd_iload C dX3_seekFrom_147 0 rfl ?_
                  refine sd_if_ne C 153 dX3_seekFrom_149 (by decide) (fun c149 => ?_) (fun c149 => ?_)
                  · refine sd_iinc C dX3_seekFrom_153 4 rfl (by decide) (by decide) (by omega) (fun zz => [(6, .int zz), (4, .int (y4 ||| r61)), (9, .int k127), (8, .int r61), (7, .int r51), (5, .int z22), (0, .ref (ad 13)), (1, .int x1), (2, .ref (ad (64 + f))), (3, .ref (ad (16 + q)))]) (fun _ => rfl) (fun u153 eu153 => ?_)
                    refine sd_goto C 28 dX3_seekFrom_156 (by decide) ?_
                    exact sd_lv (ih28 (y4 ||| r61) u153 (i + 1) zz d' s80 (by omega) hz1 hz2 hz3 hd1 hI2 (by omega) g80 fr80 o80 (by omega) (by omega)) [0, 5, 1, 6, 7, 8, 9] rfl
                  · exact hret _ _ _ dX3_seekFrom_152 (by
                        have e0 : zz = 0 := by omega
                        have hdead : ∀ m, m < 16 → fS β f l9 a (i + 1) m = false := fun m hm => by rw [← hz3 m hm, e0, Nat.zero_testBit]
                        have he : ∀ j, fWb β f l9 a j = true → i + 1 ≤ j → ∀ m, m < 16 → fT β f l9 a j m = false := fun j _ w m hm => fT_dead hdead w hm
                        refine ⟨fr80, o80, ?_, ?_⟩
                        · rw [fI_D hI2 (by omega) he]; exact hd1
                        · rw [fI_none hI2 (by omega) he (by omega)]; exact g80)
                · exact absurd c132 (by omega)
              · refine sd_iconst C dX3_seekFrom_123 (by decide) (fun k123 ek123 => ?_)
                refine sd_goto C 128 dX3_seekFrom_124 (by decide) ?_
                refine sd_istore (lv' := [(9, .int k123), (8, .int r61), (7, .int r51), (6, .int y6), (5, .int z22), (4, .int y4), (0, .ref (ad 13)), (1, .int x1), (2, .ref (ad (64 + f))), (3, .ref (ad (16 + q)))]) C dX3_seekFrom_128 (by decide) rfl ?_
                refine sd_iload C dX3_seekFrom_130 0 rfl ?_
                refine sd_if_eq C 140 dX3_seekFrom_132 (by decide) (fun c132 => ?_) (fun c132 => ?_)
                · exact absurd c132 (by omega)
                · refine sd_iload C dX3_seekFrom_135 1 rfl ?_
                  refine sd_goto C 145 dX3_seekFrom_137 (by decide) ?_
                  refine sd_istore (lv' := [(4, .int r61), (9, .int k123), (8, .int r61), (7, .int r51), (6, .int y6), (5, .int z22), (0, .ref (ad 13)), (1, .int x1), (2, .ref (ad (64 + f))), (3, .ref (ad (16 + q)))]) C dX3_seekFrom_145 (by decide) rfl ?_
                  obtain ⟨zz, hz1, hz2, hz3⟩ : ∃ zz : Nat, r61.toInt = (zz : Int) ∧ zz < 65536 ∧ ∀ m, m < 16 → zz.testBit m = fS β f l9 a (i + 1) m := ⟨b, hb2, hb1, fS_next hbS hbT (Or.inl ⟨by omega, rfl⟩)⟩
                  refine sd_iload C dX3_seekFrom_147 0 rfl ?_
                  refine sd_if_ne C 153 dX3_seekFrom_149 (by decide) (fun c149 => ?_) (fun c149 => ?_)
                  · refine sd_iinc C dX3_seekFrom_153 4 rfl (by decide) (by decide) (by omega) (fun zz => [(6, .int zz), (4, .int r61), (9, .int k123), (8, .int r61), (7, .int r51), (5, .int z22), (0, .ref (ad 13)), (1, .int x1), (2, .ref (ad (64 + f))), (3, .ref (ad (16 + q)))]) (fun _ => rfl) (fun u153 eu153 => ?_)
                    refine sd_goto C 28 dX3_seekFrom_156 (by decide) ?_
                    exact sd_lv (ih28 r61 u153 (i + 1) zz d' s80 (by omega) hz1 hz2 hz3 hd1 hI2 (by omega) g80 fr80 o80 (by omega) (by omega)) [0, 5, 1, 6, 7, 8, 9] rfl
                  · exact hret _ _ _ dX3_seekFrom_152 (by
                        have e0 : zz = 0 := by omega
                        have hdead : ∀ m, m < 16 → fS β f l9 a (i + 1) m = false := fun m hm => by rw [← hz3 m hm, e0, Nat.zero_testBit]
                        have he : ∀ j, fWb β f l9 a j = true → i + 1 ≤ j → ∀ m, m < 16 → fT β f l9 a j m = false := fun j _ w m hm => fT_dead hdead w hm
                        refine ⟨fr80, o80, ?_, ?_⟩
                        · rw [fI_D hI2 (by omega) he]; exact hd1
                        · rw [fI_none hI2 (by omega) he (by omega)]; exact g80)
          · refine sd_aload_n C dX3_seekFrom_90 5 rfl rfl ?_
            refine sd_get C (by decide) rfl rfl 2 (by decide) rfl wf_X3_41 dX3_seekFrom_91 ?_
            refine sd_aload_n C dX3_seekFrom_94 7 rfl rfl ?_
            refine sd_get C (by omega) (sd_cell_fun _ (by omega)) rfl 1 (by decide) rfl wf_X3_40 dX3_seekFrom_95 ?_
            refine sd_icmp_ne C 108 dX3_seekFrom_98 (by decide) (fun c98 => ?_) (fun c98 => ?_)
            · refine sd_iload C dX3_seekFrom_108 2 rfl ?_
              refine sd_iload_n C dX3_seekFrom_110 6 rfl rfl ?_
              refine sd_icmp_eq C 123 dX3_seekFrom_111 (by decide) (fun c111 => ?_) (fun c111 => ?_)
              · refine sd_iconst C dX3_seekFrom_123 (by decide) (fun k123 ek123 => ?_)
                refine sd_goto C 128 dX3_seekFrom_124 (by decide) ?_
                refine sd_istore (lv' := [(9, .int k123), (8, .int r61), (7, .int r51), (6, .int y6), (5, .int z22), (4, .int y4), (0, .ref (ad 13)), (1, .int x1), (2, .ref (ad (64 + f))), (3, .ref (ad (16 + q)))]) C dX3_seekFrom_128 (by decide) rfl ?_
                refine sd_iload C dX3_seekFrom_130 0 rfl ?_
                refine sd_if_eq C 140 dX3_seekFrom_132 (by decide) (fun c132 => ?_) (fun c132 => ?_)
                · exact absurd c132 (by omega)
                · refine sd_iload C dX3_seekFrom_135 1 rfl ?_
                  refine sd_goto C 145 dX3_seekFrom_137 (by decide) ?_
                  refine sd_istore (lv' := [(4, .int r61), (9, .int k123), (8, .int r61), (7, .int r51), (6, .int y6), (5, .int z22), (0, .ref (ad 13)), (1, .int x1), (2, .ref (ad (64 + f))), (3, .ref (ad (16 + q)))]) C dX3_seekFrom_145 (by decide) rfl ?_
                  obtain ⟨zz, hz1, hz2, hz3⟩ : ∃ zz : Nat, r61.toInt = (zz : Int) ∧ zz < 65536 ∧ ∀ m, m < 16 → zz.testBit m = fS β f l9 a (i + 1) m := ⟨b, hb2, hb1, fS_next hbS hbT (Or.inl ⟨by omega, rfl⟩)⟩
                  refine sd_iload C dX3_seekFrom_147 0 rfl ?_
                  refine sd_if_ne C 153 dX3_seekFrom_149 (by decide) (fun c149 => ?_) (fun c149 => ?_)
                  · refine sd_iinc C dX3_seekFrom_153 4 rfl (by decide) (by decide) (by omega) (fun zz => [(6, .int zz), (4, .int r61), (9, .int k123), (8, .int r61), (7, .int r51), (5, .int z22), (0, .ref (ad 13)), (1, .int x1), (2, .ref (ad (64 + f))), (3, .ref (ad (16 + q)))]) (fun _ => rfl) (fun u153 eu153 => ?_)
                    refine sd_goto C 28 dX3_seekFrom_156 (by decide) ?_
                    exact sd_lv (ih28 r61 u153 (i + 1) zz d' s80 (by omega) hz1 hz2 hz3 hd1 hI2 (by omega) g80 fr80 o80 (by omega) (by omega)) [0, 5, 1, 6, 7, 8, 9] rfl
                  · exact hret _ _ _ dX3_seekFrom_152 (by
                        have e0 : zz = 0 := by omega
                        have hdead : ∀ m, m < 16 → fS β f l9 a (i + 1) m = false := fun m hm => by rw [← hz3 m hm, e0, Nat.zero_testBit]
                        have he : ∀ j, fWb β f l9 a j = true → i + 1 ≤ j → ∀ m, m < 16 → fT β f l9 a j m = false := fun j _ w m hm => fT_dead hdead w hm
                        refine ⟨fr80, o80, ?_, ?_⟩
                        · rw [fI_D hI2 (by omega) he]; exact hd1
                        · rw [fI_none hI2 (by omega) he (by omega)]; exact g80)
              · refine sd_iload C dX3_seekFrom_114 1 rfl ?_
                refine sd_aload_n C dX3_seekFrom_116 7 rfl rfl ?_
                refine sd_get C (by omega) (sd_cell_fun _ (by omega)) rfl 4 (by decide) rfl wf_X3_59 dX3_seekFrom_117 ?_
                refine sd_icmp_ne C 127 dX3_seekFrom_120 (by decide) (fun c120 => ?_) (fun c120 => ?_)
                · refine sd_iconst C dX3_seekFrom_127 (by decide) (fun k127 ek127 => ?_)
                  refine sd_istore (lv' := [(9, .int k127), (8, .int r61), (7, .int r51), (6, .int y6), (5, .int z22), (4, .int y4), (0, .ref (ad 13)), (1, .int x1), (2, .ref (ad (64 + f))), (3, .ref (ad (16 + q)))]) C dX3_seekFrom_128 (by decide) rfl ?_
                  refine sd_iload C dX3_seekFrom_130 0 rfl ?_
                  refine sd_if_eq C 140 dX3_seekFrom_132 (by decide) (fun c132 => ?_) (fun c132 => ?_)
                  · refine sd_iload C dX3_seekFrom_140 5 rfl ?_
                    refine sd_iload C dX3_seekFrom_142 1 rfl ?_
                    refine sd_ior C dX3_seekFrom_144 ?_
                    refine sd_istore (lv' := [(4, .int (y4 ||| r61)), (9, .int k127), (8, .int r61), (7, .int r51), (6, .int y6), (5, .int z22), (0, .ref (ad 13)), (1, .int x1), (2, .ref (ad (64 + f))), (3, .ref (ad (16 + q)))]) C dX3_seekFrom_145 (by decide) rfl ?_
                    obtain ⟨zz, hz1, hz2, hz3⟩ : ∃ zz : Nat, (y4 ||| r61).toInt = (zz : Int) ∧ zz < 65536 ∧ ∀ m, m < 16 → zz.testBit m = fS β f l9 a (i + 1) m := ⟨c ||| b, (fz_or h4 hb2 hc3 hb1).1, (fz_or h4 hb2 hc3 hb1).2, fS_next hbS hbT (Or.inr ⟨by omega, rfl⟩)⟩
                    refine sd_iload C dX3_seekFrom_147 0 rfl ?_
                    refine sd_if_ne C 153 dX3_seekFrom_149 (by decide) (fun c149 => ?_) (fun c149 => ?_)
                    · refine sd_iinc C dX3_seekFrom_153 4 rfl (by decide) (by decide) (by omega) (fun zz => [(6, .int zz), (4, .int (y4 ||| r61)), (9, .int k127), (8, .int r61), (7, .int r51), (5, .int z22), (0, .ref (ad 13)), (1, .int x1), (2, .ref (ad (64 + f))), (3, .ref (ad (16 + q)))]) (fun _ => rfl) (fun u153 eu153 => ?_)
                      refine sd_goto C 28 dX3_seekFrom_156 (by decide) ?_
                      exact sd_lv (ih28 (y4 ||| r61) u153 (i + 1) zz d' s80 (by omega) hz1 hz2 hz3 hd1 hI2 (by omega) g80 fr80 o80 (by omega) (by omega)) [0, 5, 1, 6, 7, 8, 9] rfl
                    · exact hret _ _ _ dX3_seekFrom_152 (by
                          have e0 : zz = 0 := by omega
                          have hdead : ∀ m, m < 16 → fS β f l9 a (i + 1) m = false := fun m hm => by rw [← hz3 m hm, e0, Nat.zero_testBit]
                          have he : ∀ j, fWb β f l9 a j = true → i + 1 ≤ j → ∀ m, m < 16 → fT β f l9 a j m = false := fun j _ w m hm => fT_dead hdead w hm
                          refine ⟨fr80, o80, ?_, ?_⟩
                          · rw [fI_D hI2 (by omega) he]; exact hd1
                          · rw [fI_none hI2 (by omega) he (by omega)]; exact g80)
                  · exact absurd c132 (by omega)
                · refine sd_iconst C dX3_seekFrom_123 (by decide) (fun k123 ek123 => ?_)
                  refine sd_goto C 128 dX3_seekFrom_124 (by decide) ?_
                  refine sd_istore (lv' := [(9, .int k123), (8, .int r61), (7, .int r51), (6, .int y6), (5, .int z22), (4, .int y4), (0, .ref (ad 13)), (1, .int x1), (2, .ref (ad (64 + f))), (3, .ref (ad (16 + q)))]) C dX3_seekFrom_128 (by decide) rfl ?_
                  refine sd_iload C dX3_seekFrom_130 0 rfl ?_
                  refine sd_if_eq C 140 dX3_seekFrom_132 (by decide) (fun c132 => ?_) (fun c132 => ?_)
                  · exact absurd c132 (by omega)
                  · refine sd_iload C dX3_seekFrom_135 1 rfl ?_
                    refine sd_goto C 145 dX3_seekFrom_137 (by decide) ?_
                    refine sd_istore (lv' := [(4, .int r61), (9, .int k123), (8, .int r61), (7, .int r51), (6, .int y6), (5, .int z22), (0, .ref (ad 13)), (1, .int x1), (2, .ref (ad (64 + f))), (3, .ref (ad (16 + q)))]) C dX3_seekFrom_145 (by decide) rfl ?_
                    obtain ⟨zz, hz1, hz2, hz3⟩ : ∃ zz : Nat, r61.toInt = (zz : Int) ∧ zz < 65536 ∧ ∀ m, m < 16 → zz.testBit m = fS β f l9 a (i + 1) m := ⟨b, hb2, hb1, fS_next hbS hbT (Or.inl ⟨by omega, rfl⟩)⟩
                    refine sd_iload C dX3_seekFrom_147 0 rfl ?_
                    refine sd_if_ne C 153 dX3_seekFrom_149 (by decide) (fun c149 => ?_) (fun c149 => ?_)
                    · refine sd_iinc C dX3_seekFrom_153 4 rfl (by decide) (by decide) (by omega) (fun zz => [(6, .int zz), (4, .int r61), (9, .int k123), (8, .int r61), (7, .int r51), (5, .int z22), (0, .ref (ad 13)), (1, .int x1), (2, .ref (ad (64 + f))), (3, .ref (ad (16 + q)))]) (fun _ => rfl) (fun u153 eu153 => ?_)
                      refine sd_goto C 28 dX3_seekFrom_156 (by decide) ?_
                      exact sd_lv (ih28 r61 u153 (i + 1) zz d' s80 (by omega) hz1 hz2 hz3 hd1 hI2 (by omega) g80 fr80 o80 (by omega) (by omega)) [0, 5, 1, 6, 7, 8, 9] rfl
                    · exact hret _ _ _ dX3_seekFrom_152 (by
                          have e0 : zz = 0 := by omega
                          have hdead : ∀ m, m < 16 → fS β f l9 a (i + 1) m = false := fun m hm => by rw [← hz3 m hm, e0, Nat.zero_testBit]
                          have he : ∀ j, fWb β f l9 a j = true → i + 1 ≤ j → ∀ m, m < 16 → fT β f l9 a j m = false := fun j _ w m hm => fT_dead hdead w hm
                          refine ⟨fr80, o80, ?_, ?_⟩
                          · rw [fI_D hI2 (by omega) he]; exact hd1
                          · rw [fI_none hI2 (by omega) he (by omega)]; exact g80)
            · refine sd_aload_n C dX3_seekFrom_101 5 rfl rfl ?_
              refine sd_iload C dX3_seekFrom_102 2 rfl ?_
              refine sd_put C (ty := .int) (by decide) rfl rfl 3 (by decide) rfl (by decide +kernel) rfl rfl (Nat.le_of_ble_eq_true rfl) (fun _ => rfl) wf_X3_32 dX3_seekFrom_104 (fun s104 es104 => ?_)
              exact hret _ _ _ dX3_seekFrom_107 (by
                  obtain ⟨w1, w2⟩ := fI_full hI hI2 hnf (by omega) (by omega)
                  refine ⟨fun i k q => ?_, fun k q1 q2 => ?_, ?_, ?_⟩
                  · rw [es104, sd_st_ne q]; exact fr80 i k q
                  · rw [es104, sd_st_nk q2]; exact o80 k q1 q2
                  · rw [es104, sd_st_nk (by decide), w1]; exact hd1
                  · rw [es104, sd_st_at, w2]; exact h6)
  exact key28 _ k10 x1 0 1 0 s7 (by omega) (by omega) (by decide) fS_0 (by rw [es7, sd_st_nk (by decide), e2]; exact ek1) fI_0 (Or.inl rfl) (by rw [es7, sd_st_at]; exact ek6) (fun i k q => by rw [es7, sd_st_ne q, es2, sd_st_ne q]) (fun k q1 q2 => by rw [es7, sd_st_nk q2, es2, sd_st_nk q1]) (by omega) (Nat.lt_succ_self _)

theorem sp_pl_si (β : sp_B) (l : List Nat) (hn : l.Nodup) (c : Nat) : (sp_pl l c = -1 ∧ sp_si β l c = -1) ∨ ∃ j, j < l.length ∧ sp_pl l c = (j : Int) ∧ sp_si β l c = (sp_ns β l (j + 1) : Int) - 1 := by
  by_cases h : c ∈ l
  · obtain ⟨i, hi, e⟩ := List.getElem_of_mem h
    have e2 : l.getD i 0 = c := by rw [List.getD_eq_getElem?_getD, List.getElem?_eq_getElem hi]; exact e
    exact Or.inr ⟨i, hi, by rw [← e2]; exact sp_pl_at hn hi, by rw [← e2]; exact sp_si_at hn hi⟩
  · exact Or.inl ⟨sp_pl_no h, sp_si_no h⟩
set_option maxRecDepth 20000 in
set_option maxHeartbeats 4000000 in
theorem c_X5_told (l : Launch) (D : va_G) (ad : Nat → Nat) (ca : Nat → ClassId) (T : Nat → Nat) (σ : sd_Mem) (β : sp_B) (hM : sd_MR σ β) (hG : sd_RG β) (x1 x2 : Int32) : sd_Ci l yX5_told cX5_told 5 2 D ad ca T σ [.ref (ad 76), .int x1, .int x2] (fun r σ' => r.toInt = an_told β x1.toInt x2.toInt ∧ sd_MR σ' β ∧ sd_lo σ σ') := by
  refine sd_ent_i (own := RX5) (by decide) rfl (Nat.le_of_ble_eq_true rfl) (fun X C hret => ?_)
  show sd_Wd X 5 D ad ca σ [(0, .ref (ad 76)), (1, .int x1), (2, .int x2)] 0 []
  have hN := sp_n_le hG
  have hn1 := hM.1.1
  refine sd_aload_n C dX5_told_0 0 rfl rfl ?_
  refine sd_iload_n C dX5_told_1 1 rfl rfl ?_
  refine sd_pVz C (c_X5_isClick l D ad ca T σ x1 (by omega)) mv_X5_isClick wm_X5_77 (by decide) rfl rfl (by decide) rfl rfl (Nat.le_of_ble_eq_true rfl) dX5_told_2 (fun r2 h2 => ?_)
  try dsimp only at h2
  refine sd_if_ne C 12 dX5_told_5 (by decide) (fun c5 => ?_) (fun c5 => ?_)
  · refine sd_iload_n C dX5_told_12 2 rfl rfl ?_
    refine sd_i2l C dX5_told_13 (fun g13 eg13 => ?_)
    refine sd_lconst C dX5_told_14 (z := 0) (by decide) (fun k14 ek14 => ?_)
    refine sd_ldc2 C dX5_told_15 wk_X5_107 (n := 6) (by decide) (fun k15 ek15 => ?_)
    refine sd_pSz C (c_X5_in l D ad ca T σ g13 k14 k15) mv_X5_in wm_X5_61 (by decide) rfl rfl (Nat.le_of_ble_eq_true rfl) dX5_told_18 (fun r18 h18 => ?_)
    try dsimp only at h18
    refine sd_if_ne C 28 dX5_told_21 (by decide) (fun c21 => ?_) (fun c21 => ?_)
    · have t1 := hM.2.1 x1.toInt.toNat (by omega)
      have t2 := hG.2.1 x1.toInt.toNat (by omega)
      have t4 := hG.2.2.1 (β 2 x1.toInt.toNat).toNat (by omega)
      have t5 : (sp_per β x1.toInt.toNat : Int) = β 5 (β 2 x1.toInt.toNat).toNat := by unfold sp_per; omega
      have hper : sp_per β x1.toInt.toNat < 24 := by omega
      refine sd_aload_n C dX5_told_28 0 rfl rfl ?_
      refine sd_aload_n C dX5_told_29 0 rfl rfl ?_
      refine sd_get C (by decide) rfl rfl 2 (by decide) rfl wf_X5_13 dX5_told_30 ?_
      refine sd_iload_n C dX5_told_33 1 rfl rfl ?_
      refine sd_iald C (by decide) rfl (x1.toInt.toNat) ⟨by omega, by omega⟩ dX5_told_34 ?_
      refine sd_pVi C (c_X5_personOf l D ad ca T σ β hM hG (β 2 x1.toInt.toNat).toNat (by omega) (σ 78 x1.toInt.toNat) (by omega)) mv_X5_personOf wm_X5_89 (by decide) rfl rfl (by decide) rfl rfl (Nat.le_of_ble_eq_true rfl) dX5_told_35 (fun r35 h35 => ?_)
      try dsimp only at h35
      refine sd_istore_n (lv' := [(3, .int r35), (0, .ref (ad 76)), (1, .int x1), (2, .int x2)]) C dX5_told_38 rfl (by decide) rfl ?_
      refine sd_aload_n C dX5_told_39 1 rfl rfl ?_
      refine sd_iload_n C dX5_told_40 0 rfl rfl ?_
      refine sd_callVv C (c_X5_gather l D ad ca T σ β hM hG (sp_per β x1.toInt.toNat) hper r35 (by omega)) mv_X5_gather wm_X5_109 (by decide) rfl rfl (by decide) rfl rfl (Nat.le_of_ble_eq_true rfl) dX5_told_41 (fun s41 h41 => ?_)
      try dsimp only at h41
      obtain ⟨hA, hfr⟩ := h41
      have hMg := sd_MR_fr (sd_ga_keep hfr) hM
      have hlo := sd_ga_lo hfr
      obtain ⟨A1, A2, A3, A4, A5⟩ := id hA
      have hW := hA.mw hMg hG
      refine sd_aload_n C dX5_told_44 1 rfl rfl ?_
      refine sd_iload_n C dX5_told_45 2 rfl rfl ?_
      refine sd_pVi C (c_X5_placeIn l D ad ca T s41 β (sp_row β (sp_per β x1.toInt.toNat)) hW (sp_row_nodup β _) x1.toInt.toNat x1 (by omega)) mv_X5_placeIn wm_X5_113 (by decide) rfl rfl (by decide) rfl rfl (Nat.le_of_ble_eq_true rfl) dX5_told_46 (fun r46 h46 => ?_)
      try dsimp only at h46
      refine sd_istore (lv' := [(4, .int r46), (3, .int r35), (0, .ref (ad 76)), (1, .int x1), (2, .int x2)]) C dX5_told_49 (by decide) rfl ?_
      have t9 := hMg.2.1 x1.toInt.toNat (by omega)
      have t8 := sp_pl_rng (sp_row β (sp_per β x1.toInt.toNat)) x1.toInt.toNat
      have hok := sp_row_ok hG (sp_per β x1.toInt.toNat)
      refine sd_iload_n C dX5_told_51 4 rfl rfl ?_
      have hw52 : x2.toInt = 0 ∨ x2.toInt = 1 ∨ x2.toInt = 2 ∨ x2.toInt = 3 ∨ x2.toInt = 4 ∨ x2.toInt = 5 ∨ (x2.toInt ≠ 0 ∧ x2.toInt ≠ 1 ∧ x2.toInt ≠ 2 ∧ x2.toInt ≠ 3 ∧ x2.toInt ≠ 4 ∧ x2.toInt ≠ 5) := by omega
      rcases hw52 with w52 | w52 | w52 | w52 | w52 | w52 | w52
      · refine sd_tableIn C 92 (0) dX5_told_52 w52 (by decide) rfl (by decide) ?_
        refine sd_aload_n C dX5_told_92 2 rfl rfl ?_
        refine sd_get C (by decide) rfl rfl 1 (by decide) rfl wf_X5_7 dX5_told_93 ?_
        refine sd_iload_n C dX5_told_96 3 rfl rfl ?_
        refine sd_iald C (by decide) rfl (x1.toInt.toNat) ⟨by omega, by omega⟩ dX5_told_97 ?_
        exact hret _ _ _ _ dX5_told_98 (⟨by
            unfold an_told
            repeat' split
            all_goals omega, hMg, hlo⟩)
      · refine sd_tableIn C 99 (1) dX5_told_52 w52 (by decide) rfl (by decide) ?_
        refine sd_aload_n C dX5_told_99 2 rfl rfl ?_
        refine sd_get C (by decide) rfl rfl 2 (by decide) rfl wf_X5_13 dX5_told_100 ?_
        refine sd_iload_n C dX5_told_103 3 rfl rfl ?_
        refine sd_iald C (by decide) rfl (x1.toInt.toNat) ⟨by omega, by omega⟩ dX5_told_104 ?_
        exact hret _ _ _ _ dX5_told_105 (⟨by
            unfold an_told
            repeat' split
            all_goals omega, hMg, hlo⟩)
      · refine sd_tableIn C 106 (2) dX5_told_52 w52 (by decide) rfl (by decide) ?_
        refine sd_aload_n C dX5_told_106 2 rfl rfl ?_
        refine sd_get C (by decide) rfl rfl 3 (by decide) rfl wf_X5_16 dX5_told_107 ?_
        refine sd_iload_n C dX5_told_110 3 rfl rfl ?_
        refine sd_iald C (by decide) rfl (x1.toInt.toNat) ⟨by omega, by omega⟩ dX5_told_111 ?_
        exact hret _ _ _ _ dX5_told_112 (⟨by
            unfold an_told
            repeat' split
            all_goals omega, hMg, hlo⟩)
      · refine sd_tableIn C 113 (3) dX5_told_52 w52 (by decide) rfl (by decide) ?_
        refine sd_iload_n C dX5_told_113 1 rfl rfl ?_
        exact hret _ _ _ _ dX5_told_114 (⟨by
            unfold an_told
            repeat' split
            all_goals omega, hMg, hlo⟩)
      · refine sd_tableIn C 115 (4) dX5_told_52 w52 (by decide) rfl (by decide) ?_
        refine sd_iload C dX5_told_115 0 rfl ?_
        refine sd_if_ge C 124 dX5_told_117 (by decide) (fun c117 => ?_) (fun c117 => ?_)
        · refine sd_iconst C dX5_told_124 (by decide) (fun k124 ek124 => ?_)
          exact hret _ _ _ _ dX5_told_125 (⟨by
              unfold an_told
              repeat' split
              all_goals omega, hMg, hlo⟩)
        · refine sd_iconst C dX5_told_120 (by decide) (fun k120 ek120 => ?_)
          refine sd_goto C 125 dX5_told_121 (by decide) ?_
          exact hret _ _ _ _ dX5_told_125 (⟨by
              unfold an_told
              repeat' split
              all_goals omega, hMg, hlo⟩)
      · refine sd_tableIn C 126 (5) dX5_told_52 w52 (by decide) rfl (by decide) ?_
        refine sd_iload C dX5_told_126 0 rfl ?_
        refine sd_if_ge C 135 dX5_told_128 (by decide) (fun c128 => ?_) (fun c128 => ?_)
        · rcases sp_pl_si β (sp_row β (sp_per β x1.toInt.toNat)) (sp_row_nodup β _) x1.toInt.toNat with ⟨w1, w2⟩ | ⟨jj, w0, w1, w2⟩
          · exfalso; omega
          have w3 := A5 jj w0
          refine sd_aload_n C dX5_told_135 2 rfl rfl ?_
          refine sd_get C (by decide) rfl rfl 14 (by decide) rfl wf_X5_47 dX5_told_136 ?_
          refine sd_iload C dX5_told_139 0 rfl ?_
          refine sd_iald C (by decide) rfl (jj) ⟨by omega, by omega⟩ dX5_told_141 ?_
          exact hret _ _ _ _ dX5_told_142 (⟨by
              unfold an_told
              repeat' split
              all_goals omega, hMg, hlo⟩)
        · refine sd_iconst C dX5_told_131 (by decide) (fun k131 ek131 => ?_)
          refine sd_goto C 142 dX5_told_132 (by decide) ?_
          exact hret _ _ _ _ dX5_told_142 (⟨by
              have t7 : sp_si β (sp_row β (sp_per β x1.toInt.toNat)) x1.toInt.toNat = -1 := by
                rcases sp_pl_si β (sp_row β (sp_per β x1.toInt.toNat)) (sp_row_nodup β _) x1.toInt.toNat with w | ⟨jj, w0, w1, w2⟩
                · exact w.2
                · exfalso; omega
              unfold an_told
              repeat' split
              all_goals omega, hMg, hlo⟩)
      · refine sd_tableOut C 143 dX5_told_52 (by omega) (by decide) ?_
        refine sd_iload C dX5_told_143 0 rfl ?_
        exact hret _ _ _ _ dX5_told_145 (⟨by
            unfold an_told
            repeat' split
            all_goals omega, hMg, hlo⟩)
    · refine sd_sipush C dX5_told_24 (by decide) (fun k24 ek24 => ?_)
      exact hret _ _ _ _ dX5_told_27 (⟨by
          unfold an_told
          repeat' split
          all_goals omega, hM, fun _ _ _ => rfl⟩)
  · refine sd_sipush C dX5_told_8 (by decide) (fun k8 ek8 => ?_)
    exact hret _ _ _ _ dX5_told_11 (⟨by
        unfold an_told
        repeat' split
        all_goals omega, hM, fun _ _ _ => rfl⟩)

set_option maxRecDepth 20000 in
set_option maxHeartbeats 4000000 in
theorem c_X5_person (l : Launch) (D : va_G) (ad : Nat → Nat) (ca : Nat → ClassId) (T : Nat → Nat) (σ : sd_Mem) (β : sp_B) (hM : sd_MR σ β) (hG : sd_RG β) (x1 x2 : Int32) : sd_Ci l yX5_person cX5_person 4 2 D ad ca T σ [.ref (ad 76), .int x1, .int x2] (fun r σ' => r.toInt = an_person β x1.toInt x2.toInt ∧ sd_MR σ' β ∧ sd_lo σ σ') := by
  refine sd_ent_i (own := RX5) (by decide) rfl (Nat.le_of_ble_eq_true rfl) (fun X C hret => ?_)
  show sd_Wd X 4 D ad ca σ [(0, .ref (ad 76)), (1, .int x1), (2, .int x2)] 0 []
  have hN := sp_n_le hG
  have hn1 := hM.1.1
  refine sd_iload_n C dX5_person_0 1 rfl rfl ?_
  refine sd_pSz C (c_X5_isWho l D ad ca T σ x1) mv_X5_isWho wm_X5_69 (by decide) rfl rfl (Nat.le_of_ble_eq_true rfl) dX5_person_1 (fun r1 h1 => ?_)
  try dsimp only at h1
  refine sd_if_ne C 11 dX5_person_4 (by decide) (fun c4 => ?_) (fun c4 => ?_)
  · have p2 := hG.2.2.1 x1.toInt.toNat (by omega)
    have hq : sp_q β x1.toInt < 24 := by unfold sp_q; omega
    have hqe : β 5 x1.toInt.toNat = (sp_q β x1.toInt : Int) := by unfold sp_q; omega
    have hok := sp_row_ok hG (sp_q β x1.toInt)
    refine sd_aload_n C dX5_person_11 0 rfl rfl ?_
    refine sd_iload_n C dX5_person_12 1 rfl rfl ?_
    refine sd_pVi C (c_X5_personOf l D ad ca T σ β hM hG x1.toInt.toNat (by omega) x1 (by omega)) mv_X5_personOf wm_X5_89 (by decide) rfl rfl (by decide) rfl rfl (Nat.le_of_ble_eq_true rfl) dX5_person_13 (fun r13 h13 => ?_)
    try dsimp only at h13
    refine sd_istore_n (lv' := [(3, .int r13), (0, .ref (ad 76)), (1, .int x1), (2, .int x2)]) C dX5_person_16 rfl (by decide) rfl ?_
    refine sd_aload_n C dX5_person_17 1 rfl rfl ?_
    refine sd_iload_n C dX5_person_18 0 rfl rfl ?_
    refine sd_callVv C (c_X5_gather l D ad ca T σ β hM hG (sp_q β x1.toInt) hq r13 (by omega)) mv_X5_gather wm_X5_109 (by decide) rfl rfl (by decide) rfl rfl (Nat.le_of_ble_eq_true rfl) dX5_person_19 (fun s19 h19 => ?_)
    try dsimp only at h19
    obtain ⟨hA, hfr⟩ := h19
    have hMg := sd_MR_fr (sd_ga_keep hfr) hM
    have hlo := sd_ga_lo hfr
    obtain ⟨A1, A2, A3, A4, A5⟩ := id hA
    have hW := hA.mw hMg hG
    refine sd_iload_n C dX5_person_22 3 rfl rfl ?_
    have hw23 : x2.toInt = 0 ∨ x2.toInt = 1 ∨ x2.toInt = 2 ∨ x2.toInt = 3 ∨ x2.toInt = 4 ∨ x2.toInt = 5 ∨ (x2.toInt ≠ 0 ∧ x2.toInt ≠ 1 ∧ x2.toInt ≠ 2 ∧ x2.toInt ≠ 3 ∧ x2.toInt ≠ 4 ∧ x2.toInt ≠ 5) := by omega
    rcases hw23 with w23 | w23 | w23 | w23 | w23 | w23 | w23
    · refine sd_tableIn C 60 (0) dX5_person_23 w23 (by decide) rfl (by decide) ?_
      refine sd_iload_n C dX5_person_60 0 rfl rfl ?_
      exact hret _ _ _ _ dX5_person_61 (⟨by
          unfold an_person
          repeat' split
          all_goals omega, hMg, hlo⟩)
    · refine sd_tableIn C 62 (1) dX5_person_23 w23 (by decide) rfl (by decide) ?_
      refine sd_aload_n C dX5_person_62 1 rfl rfl ?_
      refine sd_iload_n C dX5_person_63 0 rfl rfl ?_
      refine sd_pVi C (c_X5_clicksOf l D ad ca T s19 β hMg hG (sp_q β x1.toInt) hq r13 (by omega)) mv_X5_clicksOf wm_X5_116 (by decide) rfl rfl (by decide) rfl rfl (Nat.le_of_ble_eq_true rfl) dX5_person_64 (fun r64 h64 => ?_)
      try dsimp only at h64
      exact hret _ _ _ _ dX5_person_67 (⟨by
          unfold an_person
          repeat' split
          all_goals omega, hMg, hlo⟩)
    · refine sd_tableIn C 68 (2) dX5_person_23 w23 (by decide) rfl (by decide) ?_
      refine sd_aload_n C dX5_person_68 1 rfl rfl ?_
      refine sd_get C (by decide) rfl rfl 15 (by decide) rfl wf_X5_86 dX5_person_69 ?_
      exact hret _ _ _ _ dX5_person_72 (⟨by
          unfold an_person
          repeat' split
          all_goals omega, hMg, hlo⟩)
    · refine sd_tableIn C 73 (3) dX5_person_23 w23 (by decide) rfl (by decide) ?_
      refine sd_aload_n C dX5_person_73 1 rfl rfl ?_
      refine sd_get C (by decide) rfl rfl 17 (by decide) rfl wf_X5_97 dX5_person_74 ?_
      refine sd_if_eq C 84 dX5_person_77 (by decide) (fun c77 => ?_) (fun c77 => ?_)
      · refine sd_iconst C dX5_person_84 (by decide) (fun k84 ek84 => ?_)
        exact hret _ _ _ _ dX5_person_85 (⟨by
            unfold an_person
            cases hk : sp_quick β (sp_raw β (sp_q β x1.toInt))
            · rw [hk] at A4; simp at A4
              repeat' split
              all_goals first | omega | simp_all
            · rw [hk] at A4; simp at A4
              repeat' split
              all_goals first | omega | simp_all, hMg, hlo⟩)
      · refine sd_iconst C dX5_person_80 (by decide) (fun k80 ek80 => ?_)
        refine sd_goto C 85 dX5_person_81 (by decide) ?_
        exact hret _ _ _ _ dX5_person_85 (⟨by
            unfold an_person
            cases hk : sp_quick β (sp_raw β (sp_q β x1.toInt))
            · rw [hk] at A4; simp at A4
              repeat' split
              all_goals first | omega | simp_all
            · rw [hk] at A4; simp at A4
              repeat' split
              all_goals first | omega | simp_all, hMg, hlo⟩)
    · refine sd_tableIn C 86 (4) dX5_person_23 w23 (by decide) rfl (by decide) ?_
      refine sd_aload_n C dX5_person_86 1 rfl rfl ?_
      refine sd_get C (by decide) rfl rfl 16 (by decide) rfl wf_X5_101 dX5_person_87 ?_
      exact hret _ _ _ _ dX5_person_90 (⟨by
          unfold an_person
          repeat' split
          all_goals omega, hMg, hlo⟩)
    · refine sd_tableIn C 91 (5) dX5_person_23 w23 (by decide) rfl (by decide) ?_
      refine sd_aload_n C dX5_person_91 1 rfl rfl ?_
      refine sd_pVi C (c_X5_birth l D ad ca T s19 β (sp_row β (sp_q β x1.toInt)) hW) mv_X5_birth wm_X5_119 (by decide) rfl rfl (by decide) rfl rfl (Nat.le_of_ble_eq_true rfl) dX5_person_92 (fun r92 h92 => ?_)
      try dsimp only at h92
      exact hret _ _ _ _ dX5_person_95 (⟨by
          unfold an_person
          repeat' split
          all_goals omega, hMg, hlo⟩)
    · refine sd_tableOut C 96 dX5_person_23 (by omega) (by decide) ?_
      refine sd_sipush C dX5_person_96 (by decide) (fun k96 ek96 => ?_)
      exact hret _ _ _ _ dX5_person_99 (⟨by
          unfold an_person
          repeat' split
          all_goals omega, hMg, hlo⟩)
  · refine sd_sipush C dX5_person_7 (by decide) (fun k7 ek7 => ?_)
    exact hret _ _ _ _ dX5_person_10 (⟨by
        unfold an_person
        repeat' split
        all_goals omega, hM, fun _ _ _ => rfl⟩)

set_option maxRecDepth 20000 in
set_option maxHeartbeats 4000000 in
theorem c_X5_row (l : Launch) (D : va_G) (ad : Nat → Nat) (ca : Nat → ClassId) (T : Nat → Nat) (σ : sd_Mem) (β : sp_B) (hM : sd_MR σ β) (hG : sd_RG β) (x1 x2 : Int32) : sd_Ci l yX5_row cX5_row 3 2 D ad ca T σ [.ref (ad 76), .int x1, .int x2] (fun r σ' => r.toInt = an_row β x1.toInt x2.toInt ∧ sd_MR σ' β ∧ sd_lo σ σ') := by
  refine sd_ent_i (own := RX5) (by decide) rfl (Nat.le_of_ble_eq_true rfl) (fun X C hret => ?_)
  show sd_Wd X 3 D ad ca σ [(0, .ref (ad 76)), (1, .int x1), (2, .int x2)] 0 []
  have hN := sp_n_le hG
  have hn1 := hM.1.1
  refine sd_iload_n C dX5_row_0 1 rfl rfl ?_
  refine sd_pSz C (c_X5_isWho l D ad ca T σ x1) mv_X5_isWho wm_X5_69 (by decide) rfl rfl (Nat.le_of_ble_eq_true rfl) dX5_row_1 (fun r1 h1 => ?_)
  try dsimp only at h1
  refine sd_if_ne C 11 dX5_row_4 (by decide) (fun c4 => ?_) (fun c4 => ?_)
  · have p2 := hG.2.2.1 x1.toInt.toNat (by omega)
    have hq : sp_q β x1.toInt < 24 := by unfold sp_q; omega
    have hqe : β 5 x1.toInt.toNat = (sp_q β x1.toInt : Int) := by unfold sp_q; omega
    have hok := sp_row_ok hG (sp_q β x1.toInt)
    refine sd_aload_n C dX5_row_11 0 rfl rfl ?_
    refine sd_aload_n C dX5_row_12 0 rfl rfl ?_
    refine sd_iload_n C dX5_row_13 1 rfl rfl ?_
    refine sd_pVi C (c_X5_personOf l D ad ca T σ β hM hG x1.toInt.toNat (by omega) x1 (by omega)) mv_X5_personOf wm_X5_89 (by decide) rfl rfl (by decide) rfl rfl (Nat.le_of_ble_eq_true rfl) dX5_row_14 (fun r14 h14 => ?_)
    try dsimp only at h14
    refine sd_callVv C (c_X5_gather l D ad ca T σ β hM hG (sp_q β x1.toInt) hq r14 (by omega)) mv_X5_gather wm_X5_109 (by decide) rfl rfl (by decide) rfl rfl (Nat.le_of_ble_eq_true rfl) dX5_row_17 (fun s17 h17 => ?_)
    try dsimp only at h17
    obtain ⟨hA, hfr⟩ := h17
    have hMg := sd_MR_fr (sd_ga_keep hfr) hM
    have hlo := sd_ga_lo hfr
    obtain ⟨A1, A2, A3, A4, A5⟩ := id hA
    have hW := hA.mw hMg hG
    refine sd_iload_n C dX5_row_20 2 rfl rfl ?_
    refine sd_i2l C dX5_row_21 (fun g21 eg21 => ?_)
    refine sd_lconst C dX5_row_22 (z := 0) (by decide) (fun k22 ek22 => ?_)
    refine sd_aload_n C dX5_row_23 0 rfl rfl ?_
    refine sd_get C (by decide) rfl rfl 15 (by decide) rfl wf_X5_86 dX5_row_24 ?_
    refine sd_iconst C dX5_row_27 (by decide) (fun k27 ek27 => ?_)
    refine sd_isub C dX5_row_28 (by omega) (fun z28 ez28 => ?_)
    refine sd_i2l C dX5_row_29 (fun g29 eg29 => ?_)
    refine sd_pSz C (c_X5_in l D ad ca T s17 g21 k22 g29) mv_X5_in wm_X5_61 (by decide) rfl rfl (Nat.le_of_ble_eq_true rfl) dX5_row_30 (fun r30 h30 => ?_)
    try dsimp only at h30
    refine sd_if_eq C 45 dX5_row_33 (by decide) (fun c33 => ?_) (fun c33 => ?_)
    · refine sd_iconst C dX5_row_45 (by decide) (fun k45 ek45 => ?_)
      exact hret _ _ _ _ dX5_row_46 (⟨by
          unfold an_row
          repeat' split
          all_goals omega, hMg, hlo⟩)
    · have A6 := A2 x2.toInt.toNat (by omega)
      refine sd_aload_n C dX5_row_36 0 rfl rfl ?_
      refine sd_get C (by decide) rfl rfl 13 (by decide) rfl wf_X5_44 dX5_row_37 ?_
      refine sd_iload_n C dX5_row_40 2 rfl rfl ?_
      refine sd_iald C (by decide) rfl (x2.toInt.toNat) ⟨by omega, by omega⟩ dX5_row_41 ?_
      refine sd_goto C 46 dX5_row_42 (by decide) ?_
      exact hret _ _ _ _ dX5_row_46 (⟨by
          unfold an_row
          repeat' split
          all_goals omega, hMg, hlo⟩)
  · refine sd_sipush C dX5_row_7 (by decide) (fun k7 ek7 => ?_)
    exact hret _ _ _ _ dX5_row_10 (⟨by
        unfold an_row
        repeat' split
        all_goals omega, hM, fun _ _ _ => rfl⟩)

set_option maxRecDepth 20000 in
set_option maxHeartbeats 4000000 in
theorem c_X5_sitting (l : Launch) (D : va_G) (ad : Nat → Nat) (ca : Nat → ClassId) (T : Nat → Nat) (σ : sd_Mem) (β : sp_B) (hM : sd_MR σ β) (hG : sd_RG β) (x1 x2 x3 : Int32) : sd_Ci l yX5_sitting cX5_sitting 8 2 D ad ca T σ [.ref (ad 76), .int x1, .int x2, .int x3] (fun r σ' => r.toInt = an_sitting β x1.toInt x2.toInt x3.toInt ∧ sd_MR σ' β ∧ sd_lo σ σ') := by
  refine sd_ent_i (own := RX5) (by decide) rfl (Nat.le_of_ble_eq_true rfl) (fun X C hret => ?_)
  show sd_Wd X 8 D ad ca σ [(0, .ref (ad 76)), (1, .int x1), (2, .int x2), (3, .int x3)] 0 []
  have hN := sp_n_le hG
  have hn1 := hM.1.1
  refine sd_iload_n C dX5_sitting_0 1 rfl rfl ?_
  refine sd_pSz C (c_X5_isWho l D ad ca T σ x1) mv_X5_isWho wm_X5_69 (by decide) rfl rfl (Nat.le_of_ble_eq_true rfl) dX5_sitting_1 (fun r1 h1 => ?_)
  try dsimp only at h1
  refine sd_if_ne C 11 dX5_sitting_4 (by decide) (fun c4 => ?_) (fun c4 => ?_)
  · have p2 := hG.2.2.1 x1.toInt.toNat (by omega)
    have hq : sp_q β x1.toInt < 24 := by unfold sp_q; omega
    have hqe : β 5 x1.toInt.toNat = (sp_q β x1.toInt : Int) := by unfold sp_q; omega
    have hok := sp_row_ok hG (sp_q β x1.toInt)
    refine sd_aload_n C dX5_sitting_11 0 rfl rfl ?_
    refine sd_aload_n C dX5_sitting_12 0 rfl rfl ?_
    refine sd_iload_n C dX5_sitting_13 1 rfl rfl ?_
    refine sd_pVi C (c_X5_personOf l D ad ca T σ β hM hG x1.toInt.toNat (by omega) x1 (by omega)) mv_X5_personOf wm_X5_89 (by decide) rfl rfl (by decide) rfl rfl (Nat.le_of_ble_eq_true rfl) dX5_sitting_14 (fun r14 h14 => ?_)
    try dsimp only at h14
    refine sd_callVv C (c_X5_gather l D ad ca T σ β hM hG (sp_q β x1.toInt) hq r14 (by omega)) mv_X5_gather wm_X5_109 (by decide) rfl rfl (by decide) rfl rfl (Nat.le_of_ble_eq_true rfl) dX5_sitting_17 (fun s17 h17 => ?_)
    try dsimp only at h17
    obtain ⟨hA, hfr⟩ := h17
    have hMg := sd_MR_fr (sd_ga_keep hfr) hM
    have hlo := sd_ga_lo hfr
    obtain ⟨A1, A2, A3, A4, A5⟩ := id hA
    have hW := hA.mw hMg hG
    have hsl := sp_ns_le β (sp_row β (sp_q β x1.toInt)) (sp_row β (sp_q β x1.toInt)).length
    refine sd_iload_n C dX5_sitting_20 2 rfl rfl ?_
    refine sd_i2l C dX5_sitting_21 (fun g21 eg21 => ?_)
    refine sd_lconst C dX5_sitting_22 (z := 0) (by decide) (fun k22 ek22 => ?_)
    refine sd_aload_n C dX5_sitting_23 0 rfl rfl ?_
    refine sd_get C (by decide) rfl rfl 16 (by decide) rfl wf_X5_101 dX5_sitting_24 ?_
    refine sd_iconst C dX5_sitting_27 (by decide) (fun k27 ek27 => ?_)
    refine sd_isub C dX5_sitting_28 (by omega) (fun z28 ez28 => ?_)
    refine sd_i2l C dX5_sitting_29 (fun g29 eg29 => ?_)
    refine sd_pSz C (c_X5_in l D ad ca T s17 g21 k22 g29) mv_X5_in wm_X5_61 (by decide) rfl rfl (Nat.le_of_ble_eq_true rfl) dX5_sitting_30 (fun r30 h30 => ?_)
    try dsimp only at h30
    refine sd_if_ne C 40 dX5_sitting_33 (by decide) (fun c33 => ?_) (fun c33 => ?_)
    · refine sd_iload_n C dX5_sitting_40 3 rfl rfl ?_
      refine sd_i2l C dX5_sitting_41 (fun g41 eg41 => ?_)
      refine sd_lconst C dX5_sitting_42 (z := 0) (by decide) (fun k42 ek42 => ?_)
      refine sd_ldc2 C dX5_sitting_43 wk_X5_123 (n := 3) (by decide) (fun k43 ek43 => ?_)
      refine sd_pSz C (c_X5_in l D ad ca T s17 g41 k42 k43) mv_X5_in wm_X5_61 (by decide) rfl rfl (Nat.le_of_ble_eq_true rfl) dX5_sitting_46 (fun r46 h46 => ?_)
      try dsimp only at h46
      refine sd_if_ne C 56 dX5_sitting_49 (by decide) (fun c49 => ?_) (fun c49 => ?_)
      · refine sd_iconst C dX5_sitting_56 (by decide) (fun k56 ek56 => ?_)
        refine sd_istore (lv' := [(4, .int k56), (0, .ref (ad 76)), (1, .int x1), (2, .int x2), (3, .int x3)]) C dX5_sitting_57 (by decide) rfl ?_
        refine sd_iconst C dX5_sitting_59 (by decide) (fun k59 ek59 => ?_)
        refine sd_istore (lv' := [(5, .int k59), (4, .int k56), (0, .ref (ad 76)), (1, .int x1), (2, .int x2), (3, .int x3)]) C dX5_sitting_60 (by decide) rfl ?_
        refine sd_iconst C dX5_sitting_62 (by decide) (fun k62 ek62 => ?_)
        refine sd_istore (lv' := [(6, .int k62), (5, .int k59), (4, .int k56), (0, .ref (ad 76)), (1, .int x1), (2, .int x2), (3, .int x3)]) C dX5_sitting_63 (by decide) rfl ?_
        refine sd_iconst C dX5_sitting_65 (by decide) (fun k65 ek65 => ?_)
        refine sd_istore (lv' := [(7, .int k65), (6, .int k62), (5, .int k59), (4, .int k56), (0, .ref (ad 76)), (1, .int x1), (2, .int x2), (3, .int x3)]) C dX5_sitting_66 (by decide) rfl ?_
        have key68 : ∀ (fu68 : Nat) (y4 : Int32) (y5 : Int32) (y6 : Int32) (y7 : Int32) (j : Nat), (y7.toInt = (j : Int)) → (j ≤ (sp_row β (sp_q β x1.toInt)).length) → (y4.toInt = sp_sf β (sp_row β (sp_q β x1.toInt)) x2.toInt j) → (y5.toInt = sp_sl β (sp_row β (sp_q β x1.toInt)) x2.toInt j) → (y6.toInt = (sp_sc β (sp_row β (sp_q β x1.toInt)) x2.toInt j : Int)) → ((sp_row β (sp_q β x1.toInt)).length - j < fu68) → sd_Wd X 8 D ad ca s17 [(7, .int y7), (6, .int y6), (5, .int y5), (4, .int y4), (0, .ref (ad 76)), (1, .int x1), (2, .int x2), (3, .int x3)] 68 [] := by
          intro fu68
          induction fu68 with
          | zero => intro y4 y5 y6 y7 j h7 hj h4 h5 h6 hm68; exact absurd hm68 (Nat.not_lt_zero _)
          | succ fu68 ih68 =>
            intro y4 y5 y6 y7 j h7 hj h4 h5 h6 hm68
            refine sd_iload C dX5_sitting_68 0 rfl ?_
            refine sd_aload_n C dX5_sitting_70 4 rfl rfl ?_
            refine sd_get C (by decide) rfl rfl 15 (by decide) rfl wf_X5_86 dX5_sitting_71 ?_
            refine sd_icmp_ge C 125 dX5_sitting_74 (by decide) (fun c74 => ?_) (fun c74 => ?_)
            · have ej : j = (sp_row β (sp_q β x1.toInt)).length := by omega
              have A7 := A3
              rw [← ej] at A7
              have z1 := sp_sc_zero β (sp_row β (sp_q β x1.toInt)) x2.toInt j
              refine sd_iload_n C dX5_sitting_125 7 rfl rfl ?_
              refine sd_if_ne C 134 dX5_sitting_126 (by decide) (fun c126 => ?_) (fun c126 => ?_)
              · refine sd_iload_n C dX5_sitting_134 7 rfl rfl ?_
                refine sd_iconst C dX5_sitting_135 (by decide) (fun k135 ek135 => ?_)
                refine sd_icmp_ne C 144 dX5_sitting_136 (by decide) (fun c136 => ?_) (fun c136 => ?_)
                · refine sd_iload_n C dX5_sitting_144 7 rfl rfl ?_
                  refine sd_iconst C dX5_sitting_145 (by decide) (fun k145 ek145 => ?_)
                  refine sd_icmp_ne C 154 dX5_sitting_146 (by decide) (fun c146 => ?_) (fun c146 => ?_)
                  · rcases sp_sl_mem β (sp_row β (sp_q β x1.toInt)) x2.toInt j (by omega) with ⟨z2, -⟩ | ⟨a, b, z2, z3, z4, z5, z6⟩
                    · exfalso; omega
                    have z7 := hok.2 a (by omega)
                    have z8 := hok.2 b (by omega)
                    have z9 := hMg.2.1 (y5.toInt.toNat) (by omega)
                    have z10 := hMg.2.1 (y4.toInt.toNat) (by omega)
                    have z11 := hG.2.1 (y5.toInt.toNat) (by omega)
                    have z12 := hG.2.1 (y4.toInt.toNat) (by omega)
                    refine sd_aload_n C dX5_sitting_154 4 rfl rfl ?_
                    refine sd_get C (by decide) rfl rfl 1 (by decide) rfl wf_X5_7 dX5_sitting_155 ?_
                    refine sd_iload C dX5_sitting_158 2 rfl ?_
                    refine sd_iald C (by decide) rfl (y5.toInt.toNat) ⟨by omega, by omega⟩ dX5_sitting_160 ?_
                    refine sd_aload_n C dX5_sitting_161 4 rfl rfl ?_
                    refine sd_get C (by decide) rfl rfl 1 (by decide) rfl wf_X5_7 dX5_sitting_162 ?_
                    refine sd_iload C dX5_sitting_165 3 rfl ?_
                    refine sd_iald C (by decide) rfl (y4.toInt.toNat) ⟨by omega, by omega⟩ dX5_sitting_167 ?_
                    refine sd_isub C dX5_sitting_168 (by omega) (fun z168 ez168 => ?_)
                    exact hret _ _ _ _ dX5_sitting_169 (⟨by
                        unfold an_sitting
                        rw [if_neg (by omega)]
                        unfold an_sit
                        rw [if_neg (by omega), if_neg (by omega), ← ej, ← h4, ← h5]
                        repeat' split
                        all_goals omega, hMg, hlo⟩)
                  · refine sd_iload C dX5_sitting_149 1 rfl ?_
                    refine sd_goto C 169 dX5_sitting_151 (by decide) ?_
                    exact hret _ _ _ _ dX5_sitting_169 (⟨by
                        unfold an_sitting
                        rw [if_neg (by omega)]
                        unfold an_sit
                        rw [if_neg (by omega), if_neg (by omega), ← ej, ← h4, ← h5]
                        repeat' split
                        all_goals omega, hMg, hlo⟩)
                · refine sd_iload C dX5_sitting_139 2 rfl ?_
                  refine sd_goto C 169 dX5_sitting_141 (by decide) ?_
                  exact hret _ _ _ _ dX5_sitting_169 (⟨by
                      unfold an_sitting
                      rw [if_neg (by omega)]
                      unfold an_sit
                      rw [if_neg (by omega), if_neg (by omega), ← ej, ← h4, ← h5]
                      repeat' split
                      all_goals omega, hMg, hlo⟩)
              · refine sd_iload C dX5_sitting_129 3 rfl ?_
                refine sd_goto C 169 dX5_sitting_131 (by decide) ?_
                exact hret _ _ _ _ dX5_sitting_169 (⟨by
                    unfold an_sitting
                    rw [if_neg (by omega)]
                    unfold an_sit
                    rw [if_neg (by omega), if_neg (by omega), ← ej, ← h4, ← h5]
                    repeat' split
                    all_goals omega, hMg, hlo⟩)
            · have t1 := A2 j (by omega)
              have t2 := A5 j (by omega)
              have t3 := sp_sc_le β (sp_row β (sp_q β x1.toInt)) x2.toInt j
              have t5 : (y4.toInt < 0 ↔ sp_sc β (sp_row β (sp_q β x1.toInt)) x2.toInt j = 0)   := by
                rcases sp_sl_mem β (sp_row β (sp_q β x1.toInt)) x2.toInt j (by omega) with ⟨w1, w2, w3⟩ | ⟨a, b, w1, w2, w3, w4, w5⟩
                · omega
                · omega
              refine sd_aload_n C dX5_sitting_77 4 rfl rfl ?_
              refine sd_get C (by decide) rfl rfl 14 (by decide) rfl wf_X5_47 dX5_sitting_78 ?_
              refine sd_iload C dX5_sitting_81 0 rfl ?_
              refine sd_iald C (by decide) rfl (j) ⟨by omega, by omega⟩ dX5_sitting_83 ?_
              refine sd_iload_n C dX5_sitting_84 6 rfl rfl ?_
              refine sd_icmp_ne C 119 dX5_sitting_85 (by decide) (fun c85 => ?_) (fun c85 => ?_)
              · refine sd_iinc C dX5_sitting_119 0 rfl (by decide) (by decide) (by omega) (fun zz => [(7, .int zz), (6, .int y6), (5, .int y5), (4, .int y4), (0, .ref (ad 76)), (1, .int x1), (2, .int x2), (3, .int x3)]) (fun _ => rfl) (fun u119 eu119 => ?_)
                refine sd_goto C 68 dX5_sitting_122 (by decide) ?_
                exact ih68 y4 y5 y6 u119 (j + 1) (by omega) (by omega) (by rw [sp_sf]; split <;> omega) (by rw [sp_sl]; split <;> omega) (by rw [sp_sc]; split <;> omega) (by omega)
              · refine sd_iload C dX5_sitting_88 3 rfl ?_
                refine sd_if_ge C 103 dX5_sitting_90 (by decide) (fun c90 => ?_) (fun c90 => ?_)
                · refine sd_iload C dX5_sitting_103 3 rfl ?_
                  refine sd_istore (lv' := [(4, .int y4), (7, .int y7), (6, .int y6), (5, .int y5), (0, .ref (ad 76)), (1, .int x1), (2, .int x2), (3, .int x3)]) C dX5_sitting_105 (by decide) rfl ?_
                  refine sd_aload_n C dX5_sitting_107 4 rfl rfl ?_
                  refine sd_get C (by decide) rfl rfl 13 (by decide) rfl wf_X5_44 dX5_sitting_108 ?_
                  refine sd_iload C dX5_sitting_111 1 rfl ?_
                  refine sd_iald C (by decide) rfl (j) ⟨by omega, by omega⟩ dX5_sitting_113 ?_
                  refine sd_istore (lv' := [(5, .int (s17 88 (j))), (4, .int y4), (7, .int y7), (6, .int y6), (0, .ref (ad 76)), (1, .int x1), (2, .int x2), (3, .int x3)]) C dX5_sitting_114 (by decide) rfl ?_
                  refine sd_iinc C dX5_sitting_116 3 rfl (by decide) (by decide) (by omega) (fun zz => [(6, .int zz), (5, .int (s17 88 (j))), (4, .int y4), (7, .int y7), (0, .ref (ad 76)), (1, .int x1), (2, .int x2), (3, .int x3)]) (fun _ => rfl) (fun u116 eu116 => ?_)
                  refine sd_iinc C dX5_sitting_119 3 rfl (by decide) (by decide) (by omega) (fun zz => [(7, .int zz), (6, .int u116), (5, .int (s17 88 (j))), (4, .int y4), (0, .ref (ad 76)), (1, .int x1), (2, .int x2), (3, .int x3)]) (fun _ => rfl) (fun u119 eu119 => ?_)
                  refine sd_goto C 68 dX5_sitting_122 (by decide) ?_
                  exact ih68 y4 (s17 88 (j)) u116 u119 (j + 1) (by omega) (by omega) (by rw [sp_sf]; split <;> omega) (by rw [sp_sl]; split <;> omega) (by rw [sp_sc]; split <;> omega) (by omega)
                · refine sd_aload_n C dX5_sitting_93 4 rfl rfl ?_
                  refine sd_get C (by decide) rfl rfl 13 (by decide) rfl wf_X5_44 dX5_sitting_94 ?_
                  refine sd_iload C dX5_sitting_97 0 rfl ?_
                  refine sd_iald C (by decide) rfl (j) ⟨by omega, by omega⟩ dX5_sitting_99 ?_
                  refine sd_goto C 105 dX5_sitting_100 (by decide) ?_
                  refine sd_istore (lv' := [(4, .int (s17 88 (j))), (7, .int y7), (6, .int y6), (5, .int y5), (0, .ref (ad 76)), (1, .int x1), (2, .int x2), (3, .int x3)]) C dX5_sitting_105 (by decide) rfl ?_
                  refine sd_aload_n C dX5_sitting_107 4 rfl rfl ?_
                  refine sd_get C (by decide) rfl rfl 13 (by decide) rfl wf_X5_44 dX5_sitting_108 ?_
                  refine sd_iload C dX5_sitting_111 1 rfl ?_
                  refine sd_iald C (by decide) rfl (j) ⟨by omega, by omega⟩ dX5_sitting_113 ?_
                  refine sd_istore (lv' := [(5, .int (s17 88 (j))), (4, .int (s17 88 (j))), (7, .int y7), (6, .int y6), (0, .ref (ad 76)), (1, .int x1), (2, .int x2), (3, .int x3)]) C dX5_sitting_114 (by decide) rfl ?_
                  refine sd_iinc C dX5_sitting_116 3 rfl (by decide) (by decide) (by omega) (fun zz => [(6, .int zz), (5, .int (s17 88 (j))), (4, .int (s17 88 (j))), (7, .int y7), (0, .ref (ad 76)), (1, .int x1), (2, .int x2), (3, .int x3)]) (fun _ => rfl) (fun u116 eu116 => ?_)
                  refine sd_iinc C dX5_sitting_119 3 rfl (by decide) (by decide) (by omega) (fun zz => [(7, .int zz), (6, .int u116), (5, .int (s17 88 (j))), (4, .int (s17 88 (j))), (0, .ref (ad 76)), (1, .int x1), (2, .int x2), (3, .int x3)]) (fun _ => rfl) (fun u119 eu119 => ?_)
                  refine sd_goto C 68 dX5_sitting_122 (by decide) ?_
                  exact ih68 (s17 88 (j)) (s17 88 (j)) u116 u119 (j + 1) (by omega) (by omega) (by rw [sp_sf]; split <;> omega) (by rw [sp_sl]; split <;> omega) (by rw [sp_sc]; split <;> omega) (by omega)
        exact key68 _ k56 k59 k62 k65 0 (by omega) (by omega) (by rw [sp_sf]; exact ek56) (by rw [sp_sl]; exact ek59) (by rw [sp_sc]; exact ek62) (Nat.lt_succ_self _)
      · refine sd_sipush C dX5_sitting_52 (by decide) (fun k52 ek52 => ?_)
        exact hret _ _ _ _ dX5_sitting_55 (⟨by
            unfold an_sitting
            rw [if_neg (by omega)]
            unfold an_sit
            rw [if_neg (by omega), if_pos (by omega)]; omega, hMg, hlo⟩)
    · refine sd_sipush C dX5_sitting_36 (by decide) (fun k36 ek36 => ?_)
      exact hret _ _ _ _ dX5_sitting_39 (⟨by
          unfold an_sitting
          rw [if_neg (by omega)]
          unfold an_sit
          rw [if_pos (by omega)]; omega, hMg, hlo⟩)
  · refine sd_sipush C dX5_sitting_7 (by decide) (fun k7 ek7 => ?_)
    exact hret _ _ _ _ dX5_sitting_10 (⟨by
        unfold an_sitting
        rw [if_pos (by omega)]; omega, hM, fun _ _ _ => rfl⟩)

set_option maxRecDepth 20000 in
set_option maxHeartbeats 4000000 in
theorem c_X5_count (l : Launch) (D : va_G) (ad : Nat → Nat) (ca : Nat → ClassId) (T : Nat → Nat) (σ : sd_Mem) (β : sp_B) (hM : sd_MR σ β) (hG : sd_RG β) (x1 : Int32) : sd_Ci l yX5_count cX5_count 4 2 D ad ca T σ [.ref (ad 76), .int x1] (fun r σ' => r.toInt = an_count β x1.toInt ∧ sd_MR σ' β ∧ sd_lo σ σ') := by
  refine sd_ent_i (own := RX5) (by decide) rfl (Nat.le_of_ble_eq_true rfl) (fun X C hret => ?_)
  show sd_Wd X 4 D ad ca σ [(0, .ref (ad 76)), (1, .int x1)] 0 []
  have hN := sp_n_le hG
  have hn1 := hM.1.1
  have hn2 := hM.1.2
  refine sd_iload_n C dX5_count_0 1 rfl rfl ?_
  refine sd_i2l C dX5_count_1 (fun g1 eg1 => ?_)
  refine sd_lconst C dX5_count_2 (z := 0) (by decide) (fun k2 ek2 => ?_)
  refine sd_ldc2 C dX5_count_3 wk_X5_107 (n := 6) (by decide) (fun k3 ek3 => ?_)
  refine sd_pSz C (c_X5_in l D ad ca T σ g1 k2 k3) mv_X5_in wm_X5_61 (by decide) rfl rfl (Nat.le_of_ble_eq_true rfl) dX5_count_6 (fun r6 h6 => ?_)
  try dsimp only at h6
  refine sd_if_ne C 16 dX5_count_9 (by decide) (fun c9 => ?_) (fun c9 => ?_)
  · refine sd_iconst C dX5_count_16 (by decide) (fun k16 ek16 => ?_)
    refine sd_istore_n (lv' := [(2, .int k16), (0, .ref (ad 76)), (1, .int x1)]) C dX5_count_17 rfl (by decide) rfl ?_
    refine sd_iconst C dX5_count_18 (by decide) (fun k18 ek18 => ?_)
    refine sd_istore_n (lv' := [(3, .int k18), (2, .int k16), (0, .ref (ad 76)), (1, .int x1)]) C dX5_count_19 rfl (by decide) rfl ?_
    have key20 : ∀ (fu20 : Nat) (y2 : Int32) (y3 : Int32) (p : Nat) (τ : sd_Mem), (y3.toInt = (p : Int)) → (p ≤ 24) → (y2.toInt = sp_sum (sp_cf β x1.toInt) p) → (sd_MR τ β) → (sd_lo σ τ) → (24 - p < fu20) → sd_Wd X 4 D ad ca τ [(3, .int y3), (2, .int y2), (0, .ref (ad 76)), (1, .int x1)] 20 [] := by
      intro fu20
      induction fu20 with
      | zero => intro y2 y3 p τ h3 hp h2 hMt hlt hm20; exact absurd hm20 (Nat.not_lt_zero _)
      | succ fu20 ih20 =>
        intro y2 y3 p τ h3 hp h2 hMt hlt hm20
        have hr := sp_sum_rng (f := (sp_cf β x1.toInt)) (m := 120) (fun q => sp_cf_rng hG x1.toInt q) p
        have hm1 := hMt.1.1
        have hm2 := hMt.1.2
        refine sd_iload_n C dX5_count_20 0 rfl rfl ?_
        refine sd_bipush C dX5_count_21 (by decide) (fun k21 ek21 => ?_)
        refine sd_icmp_ge C 82 dX5_count_23 (by decide) (fun c23 => ?_) (fun c23 => ?_)
        · refine sd_iload_n C dX5_count_82 3 rfl rfl ?_
          refine sd_if_ne C 93 dX5_count_83 (by decide) (fun c83 => ?_) (fun c83 => ?_)
          · refine sd_iload_n C dX5_count_93 3 rfl rfl ?_
            refine sd_bipush C dX5_count_94 (by decide) (fun k94 ek94 => ?_)
            refine sd_icmp_ne C 106 dX5_count_96 (by decide) (fun c96 => ?_) (fun c96 => ?_)
            · refine sd_iload_n C dX5_count_106 1 rfl rfl ?_
              exact hret _ _ _ _ dX5_count_107 (⟨by
                  have ep : p = 24 := by omega
                  rw [ep] at h2
                  rw [an_count_cf (by omega) (by omega)]
                  repeat' split
                  all_goals omega, hMt, hlt⟩)
            · refine sd_aload_n C dX5_count_99 2 rfl rfl ?_
              refine sd_get C (by decide) rfl rfl 7 (by decide) rfl wf_X5_130 dX5_count_100 ?_
              refine sd_goto C 107 dX5_count_103 (by decide) ?_
              exact hret _ _ _ _ dX5_count_107 (⟨by
                  have ep : p = 24 := by omega
                  rw [ep] at h2
                  rw [an_count_cf (by omega) (by omega)]
                  repeat' split
                  all_goals omega, hMt, hlt⟩)
          · refine sd_aload_n C dX5_count_86 2 rfl rfl ?_
            refine sd_get C (by decide) rfl rfl 0 (by decide) rfl wf_X5_65 dX5_count_87 ?_
            refine sd_goto C 107 dX5_count_90 (by decide) ?_
            exact hret _ _ _ _ dX5_count_107 (⟨by
                have ep : p = 24 := by omega
                rw [ep] at h2
                rw [an_count_cf (by omega) (by omega)]
                repeat' split
                all_goals omega, hMt, hlt⟩)
        · have j1 := hMt.2.2.1 p (by omega)
          have j2 := sp_cf_rng hG x1.toInt p
          refine sd_aload_n C dX5_count_26 2 rfl rfl ?_
          refine sd_get C (by decide) rfl rfl 5 (by decide) rfl wf_X5_23 dX5_count_27 ?_
          refine sd_iload_n C dX5_count_30 0 rfl rfl ?_
          refine sd_iald C (by decide) rfl (p) ⟨by omega, by omega⟩ dX5_count_31 ?_
          refine sd_if_lt C 51 dX5_count_32 (by decide) (fun c32 => ?_) (fun c32 => ?_)
          · refine sd_iload_n C dX5_count_51 3 rfl rfl ?_
            refine sd_i2l C dX5_count_52 (fun g52 eg52 => ?_)
            refine sd_lconst C dX5_count_53 (z := 1) (by decide) (fun k53 ek53 => ?_)
            refine sd_ldc2 C dX5_count_54 wk_X5_125 (n := 4) (by decide) (fun k54 ek54 => ?_)
            refine sd_pSz C (c_X5_in l D ad ca T τ g52 k53 k54) mv_X5_in wm_X5_61 (by decide) rfl rfl (Nat.le_of_ble_eq_true rfl) dX5_count_57 (fun r57 h57 => ?_)
            try dsimp only at h57
            refine sd_if_eq C 76 dX5_count_60 (by decide) (fun c60 => ?_) (fun c60 => ?_)
            · refine sd_iinc C dX5_count_76 0 rfl (by decide) (by decide) (by omega) (fun zz => [(3, .int zz), (2, .int y2), (0, .ref (ad 76)), (1, .int x1)]) (fun _ => rfl) (fun u76 eu76 => ?_)
              refine sd_goto C 20 dX5_count_79 (by decide) ?_
              exact ih20 y2 u76 (p + 1) τ (by omega) (by omega) (by first | (rw [sp_sum_s (sp_cf_joined hG (by omega) (by omega))]; split <;> omega) | (rw [sp_sum_s (sp_cf_own (by omega) (by omega))]; omega) | (rw [sp_sum]; omega)) hMt hlt (by omega)
            · refine sd_aload_n C dX5_count_63 2 rfl rfl ?_
              refine sd_iload_n C dX5_count_64 0 rfl rfl ?_
              refine sd_callVv C (c_X5_gather l D ad ca T τ β hMt hG p (by omega) y3 (by omega)) mv_X5_gather wm_X5_109 (by decide) rfl rfl (by decide) rfl rfl (Nat.le_of_ble_eq_true rfl) dX5_count_65 (fun s65 h65 => ?_)
              try dsimp only at h65
              obtain ⟨hA, hfr⟩ := h65
              have hMg := sd_MR_fr (sd_ga_keep hfr) hMt
              have hlo := hlt.tr (sd_ga_lo hfr)
              refine sd_iload_n C dX5_count_68 1 rfl rfl ?_
              refine sd_aload_n C dX5_count_69 2 rfl rfl ?_
              refine sd_iload_n C dX5_count_70 3 rfl rfl ?_
              refine sd_pVi C (c_X5_counted l D ad ca T s65 β hG p hA x1 (by omega) (by omega)) mv_X5_counted wm_X5_127 (by decide) rfl rfl (by decide) rfl rfl (Nat.le_of_ble_eq_true rfl) dX5_count_71 (fun r71 h71 => ?_)
              try dsimp only at h71
              refine sd_iadd C dX5_count_74 (by omega) (fun z74 ez74 => ?_)
              refine sd_istore_n (lv' := [(2, .int z74), (3, .int y3), (0, .ref (ad 76)), (1, .int x1)]) C dX5_count_75 rfl (by decide) rfl ?_
              refine sd_iinc C dX5_count_76 1 rfl (by decide) (by decide) (by omega) (fun zz => [(3, .int zz), (2, .int z74), (0, .ref (ad 76)), (1, .int x1)]) (fun _ => rfl) (fun u76 eu76 => ?_)
              refine sd_goto C 20 dX5_count_79 (by decide) ?_
              exact ih20 z74 u76 (p + 1) s65 (by omega) (by omega) (by first | (rw [sp_sum_s (sp_cf_joined hG (by omega) (by omega))]; split <;> omega) | (rw [sp_sum_s (sp_cf_own (by omega) (by omega))]; omega) | (rw [sp_sum]; omega)) hMg hlo (by omega)
          · refine sd_iload_n C dX5_count_35 1 rfl rfl ?_
            refine sd_iload_n C dX5_count_36 3 rfl rfl ?_
            refine sd_iconst C dX5_count_37 (by decide) (fun k37 ek37 => ?_)
            refine sd_icmp_ne C 45 dX5_count_38 (by decide) (fun c38 => ?_) (fun c38 => ?_)
            · refine sd_iconst C dX5_count_45 (by decide) (fun k45 ek45 => ?_)
              refine sd_iadd C dX5_count_46 (by omega) (fun z46 ez46 => ?_)
              refine sd_istore_n (lv' := [(2, .int z46), (3, .int y3), (0, .ref (ad 76)), (1, .int x1)]) C dX5_count_47 rfl (by decide) rfl ?_
              refine sd_goto C 76 dX5_count_48 (by decide) ?_
              refine sd_iinc C dX5_count_76 1 rfl (by decide) (by decide) (by omega) (fun zz => [(3, .int zz), (2, .int z46), (0, .ref (ad 76)), (1, .int x1)]) (fun _ => rfl) (fun u76 eu76 => ?_)
              refine sd_goto C 20 dX5_count_79 (by decide) ?_
              exact ih20 z46 u76 (p + 1) τ (by omega) (by omega) (by first | (rw [sp_sum_s (sp_cf_joined hG (by omega) (by omega))]; split <;> omega) | (rw [sp_sum_s (sp_cf_own (by omega) (by omega))]; omega) | (rw [sp_sum]; omega)) hMt hlt (by omega)
            · refine sd_iconst C dX5_count_41 (by decide) (fun k41 ek41 => ?_)
              refine sd_goto C 46 dX5_count_42 (by decide) ?_
              refine sd_iadd C dX5_count_46 (by omega) (fun z46 ez46 => ?_)
              refine sd_istore_n (lv' := [(2, .int z46), (3, .int y3), (0, .ref (ad 76)), (1, .int x1)]) C dX5_count_47 rfl (by decide) rfl ?_
              refine sd_goto C 76 dX5_count_48 (by decide) ?_
              refine sd_iinc C dX5_count_76 1 rfl (by decide) (by decide) (by omega) (fun zz => [(3, .int zz), (2, .int z46), (0, .ref (ad 76)), (1, .int x1)]) (fun _ => rfl) (fun u76 eu76 => ?_)
              refine sd_goto C 20 dX5_count_79 (by decide) ?_
              exact ih20 z46 u76 (p + 1) τ (by omega) (by omega) (by first | (rw [sp_sum_s (sp_cf_joined hG (by omega) (by omega))]; split <;> omega) | (rw [sp_sum_s (sp_cf_own (by omega) (by omega))]; omega) | (rw [sp_sum]; omega)) hMt hlt (by omega)
    exact key20 _ k16 k18 0 σ (by omega) (by omega) (by rw [sp_sum]; exact ek16) hM (fun _ _ _ => rfl) (Nat.lt_succ_self _)
  · refine sd_sipush C dX5_count_12 (by decide) (fun k12 ek12 => ?_)
    exact hret _ _ _ _ dX5_count_15 (⟨by
        unfold an_count
        repeat' split
        all_goals omega, hM, fun _ _ _ => rfl⟩)

set_option maxRecDepth 20000 in
set_option maxHeartbeats 4000000 in
theorem c_X5_came (l : Launch) (D : va_G) (ad : Nat → Nat) (ca : Nat → ClassId) (T : Nat → Nat) (σ : sd_Mem) (β : sp_B) (hM : sd_MR σ β) (hG : sd_RG β) (x1 x2 : Int32) : sd_Ci l yX5_came cX5_came 5 2 D ad ca T σ [.ref (ad 76), .int x1, .int x2] (fun r σ' => r.toInt = an_came β x1.toInt x2.toInt ∧ sd_MR σ' β ∧ sd_lo σ σ') := by
  refine sd_ent_i (own := RX5) (by decide) rfl (Nat.le_of_ble_eq_true rfl) (fun X C hret => ?_)
  show sd_Wd X 5 D ad ca σ [(0, .ref (ad 76)), (1, .int x1), (2, .int x2)] 0 []
  have hN := sp_n_le hG
  have hn1 := hM.1.1
  refine sd_iload_n C dX5_came_0 1 rfl rfl ?_
  refine sd_i2l C dX5_came_1 (fun g1 eg1 => ?_)
  refine sd_lconst C dX5_came_2 (z := 0) (by decide) (fun k2 ek2 => ?_)
  refine sd_ldc2 C dX5_came_3 wk_X5_167 (n := 19) (by decide) (fun k3 ek3 => ?_)
  refine sd_pSz C (c_X5_in l D ad ca T σ g1 k2 k3) mv_X5_in wm_X5_61 (by decide) rfl rfl (Nat.le_of_ble_eq_true rfl) dX5_came_6 (fun r6 h6 => ?_)
  try dsimp only at h6
  refine sd_if_eq C 24 dX5_came_9 (by decide) (fun c9 => ?_) (fun c9 => ?_)
  · refine sd_sipush C dX5_came_24 (by decide) (fun k24 ek24 => ?_)
    exact hret _ _ _ _ dX5_came_27 (⟨by
        unfold an_came
        rw [if_pos (by omega)]; omega, hM, fun _ _ _ => rfl⟩)
  · refine sd_iload_n C dX5_came_12 2 rfl rfl ?_
    refine sd_i2l C dX5_came_13 (fun g13 eg13 => ?_)
    refine sd_lconst C dX5_came_14 (z := 0) (by decide) (fun k14 ek14 => ?_)
    refine sd_ldc2 C dX5_came_15 wk_X5_167 (n := 19) (by decide) (fun k15 ek15 => ?_)
    refine sd_pSz C (c_X5_in l D ad ca T σ g13 k14 k15) mv_X5_in wm_X5_61 (by decide) rfl rfl (Nat.le_of_ble_eq_true rfl) dX5_came_18 (fun r18 h18 => ?_)
    try dsimp only at h18
    refine sd_if_ne C 28 dX5_came_21 (by decide) (fun c21 => ?_) (fun c21 => ?_)
    · refine sd_iconst C dX5_came_28 (by decide) (fun k28 ek28 => ?_)
      refine sd_istore_n (lv' := [(3, .int k28), (0, .ref (ad 76)), (1, .int x1), (2, .int x2)]) C dX5_came_29 rfl (by decide) rfl ?_
      refine sd_iconst C dX5_came_30 (by decide) (fun k30 ek30 => ?_)
      refine sd_istore (lv' := [(4, .int k30), (3, .int k28), (0, .ref (ad 76)), (1, .int x1), (2, .int x2)]) C dX5_came_31 (by decide) rfl ?_
      have key33 : ∀ (fu33 : Nat) (y3 : Int32) (y4 : Int32) (p : Nat) (τ : sd_Mem), (y4.toInt = (p : Int)) → (p ≤ 24) → (y3.toInt = sp_sum (fun q => sp_b (decide (sp_birth β (sp_row β q) = x1.toInt) && sp_came β (sp_row β q) (x1.toInt + x2.toInt))) p) → (sd_MR τ β) → (sd_lo σ τ) → (24 - p < fu33) → sd_Wd X 5 D ad ca τ [(4, .int y4), (3, .int y3), (0, .ref (ad 76)), (1, .int x1), (2, .int x2)] 33 [] := by
        intro fu33
        induction fu33 with
        | zero => intro y3 y4 p τ h4 hp h3 hMt hlt hm33; exact absurd hm33 (Nat.not_lt_zero _)
        | succ fu33 ih33 =>
          intro y3 y4 p τ h4 hp h3 hMt hlt hm33
          have hr := sp_sum_b (fun q => decide (sp_birth β (sp_row β q) = x1.toInt) && sp_came β (sp_row β q) (x1.toInt + x2.toInt)) p hp
          refine sd_iload C dX5_came_33 0 rfl ?_
          refine sd_bipush C dX5_came_35 (by decide) (fun k35 ek35 => ?_)
          refine sd_icmp_ge C 88 dX5_came_37 (by decide) (fun c37 => ?_) (fun c37 => ?_)
          · refine sd_iload_n C dX5_came_88 1 rfl rfl ?_
            exact hret _ _ _ _ dX5_came_89 (⟨by
                unfold an_came
                rw [if_neg (by omega), show (24 : Nat) = p by omega]; exact h3, hMt, hlt⟩)
          · have j1 := hMt.2.2.1 p (by omega)
            refine sd_aload_n C dX5_came_40 2 rfl rfl ?_
            refine sd_get C (by decide) rfl rfl 5 (by decide) rfl wf_X5_23 dX5_came_41 ?_
            refine sd_iload C dX5_came_44 0 rfl ?_
            refine sd_iald C (by decide) rfl (p) ⟨by omega, by omega⟩ dX5_came_46 ?_
            refine sd_if_ge C 82 dX5_came_47 (by decide) (fun c47 => ?_) (fun c47 => ?_)
            · refine sd_iinc C dX5_came_82 0 rfl (by decide) (by decide) (by omega) (fun zz => [(4, .int zz), (3, .int y3), (0, .ref (ad 76)), (1, .int x1), (2, .int x2)]) (fun _ => rfl) (fun u82 eu82 => ?_)
              refine sd_goto C 33 dX5_came_85 (by decide) ?_
              exact ih33 y3 u82 (p + 1) τ (by omega) (by omega) (by rw [sp_sum_s (v := 0) (sp_b0 (by rw [sp_joined_row hG (by omega) (by omega), sp_birth_nil, decide_eq_false (by omega)]; rfl))]; omega) hMt hlt (by omega)
            · refine sd_aload_n C dX5_came_50 2 rfl rfl ?_
              refine sd_iload C dX5_came_51 0 rfl ?_
              refine sd_callVv C (c_X5_gather l D ad ca T τ β hMt hG p (by omega) y4 (by omega)) mv_X5_gather wm_X5_109 (by decide) rfl rfl (by decide) rfl rfl (Nat.le_of_ble_eq_true rfl) dX5_came_53 (fun s53 h53 => ?_)
              try dsimp only at h53
              obtain ⟨hA, hfr⟩ := h53
              have hMg := sd_MR_fr (sd_ga_keep hfr) hMt
              have hlo := hlt.tr (sd_ga_lo hfr)
              have hW := hA.mw hMg hG
              refine sd_iload_n C dX5_came_56 1 rfl rfl ?_
              refine sd_aload_n C dX5_came_57 2 rfl rfl ?_
              refine sd_pVi C (c_X5_birth l D ad ca T s53 β (sp_row β p) hW) mv_X5_birth wm_X5_119 (by decide) rfl rfl (by decide) rfl rfl (Nat.le_of_ble_eq_true rfl) dX5_came_58 (fun r58 h58 => ?_)
              try dsimp only at h58
              refine sd_iload_n C dX5_came_61 3 rfl rfl ?_
              refine sd_icmp_ne C 79 dX5_came_62 (by decide) (fun c62 => ?_) (fun c62 => ?_)
              · refine sd_iconst C dX5_came_79 (by decide) (fun k79 ek79 => ?_)
                refine sd_iadd C dX5_came_80 (by omega) (fun z80 ez80 => ?_)
                refine sd_istore_n (lv' := [(3, .int z80), (4, .int y4), (0, .ref (ad 76)), (1, .int x1), (2, .int x2)]) C dX5_came_81 rfl (by decide) rfl ?_
                refine sd_iinc C dX5_came_82 1 rfl (by decide) (by decide) (by omega) (fun zz => [(4, .int zz), (3, .int z80), (0, .ref (ad 76)), (1, .int x1), (2, .int x2)]) (fun _ => rfl) (fun u82 eu82 => ?_)
                refine sd_goto C 33 dX5_came_85 (by decide) ?_
                exact ih33 z80 u82 (p + 1) s53 (by omega) (by omega) (by
                      by_cases hk : sp_birth β (sp_row β p) = x1.toInt
                      · first
                          | (exfalso; omega)
                          | (rcases h69 with ⟨w1, w2⟩ | ⟨w1, w2⟩
                             · rw [sp_sum_s (v := 1) (sp_b1 (by rw [w2, decide_eq_true hk]; rfl))]; omega
                             · rw [sp_sum_s (v := 0) (sp_b0 (by rw [w2]; simp))]; omega)
                      · rw [sp_sum_s (v := 0) (sp_b0 (by rw [decide_eq_false hk]; rfl))]; omega) hMg hlo (by omega)
              · refine sd_aload_n C dX5_came_65 2 rfl rfl ?_
                refine sd_iload_n C dX5_came_66 3 rfl rfl ?_
                refine sd_iload_n C dX5_came_67 4 rfl rfl ?_
                refine sd_iadd C dX5_came_68 (by omega) (fun z68 ez68 => ?_)
                refine sd_pVz C (c_X5_cameIn l D ad ca T s53 β (sp_row β p) hW z68) mv_X5_cameIn wm_X5_169 (by decide) rfl rfl (by decide) rfl rfl (Nat.le_of_ble_eq_true rfl) dX5_came_69 (fun r69 h69 => ?_)
                try dsimp only at h69
                rw [ez68] at h69
                refine sd_if_eq C 79 dX5_came_72 (by decide) (fun c72 => ?_) (fun c72 => ?_)
                · refine sd_iconst C dX5_came_79 (by decide) (fun k79 ek79 => ?_)
                  refine sd_iadd C dX5_came_80 (by omega) (fun z80 ez80 => ?_)
                  refine sd_istore_n (lv' := [(3, .int z80), (4, .int y4), (0, .ref (ad 76)), (1, .int x1), (2, .int x2)]) C dX5_came_81 rfl (by decide) rfl ?_
                  refine sd_iinc C dX5_came_82 1 rfl (by decide) (by decide) (by omega) (fun zz => [(4, .int zz), (3, .int z80), (0, .ref (ad 76)), (1, .int x1), (2, .int x2)]) (fun _ => rfl) (fun u82 eu82 => ?_)
                  refine sd_goto C 33 dX5_came_85 (by decide) ?_
                  exact ih33 z80 u82 (p + 1) s53 (by omega) (by omega) (by
                        by_cases hk : sp_birth β (sp_row β p) = x1.toInt
                        · first
                            | (exfalso; omega)
                            | (rcases h69 with ⟨w1, w2⟩ | ⟨w1, w2⟩
                               · rw [sp_sum_s (v := 1) (sp_b1 (by rw [w2, decide_eq_true hk]; rfl))]; omega
                               · rw [sp_sum_s (v := 0) (sp_b0 (by rw [w2]; simp))]; omega)
                        · rw [sp_sum_s (v := 0) (sp_b0 (by rw [decide_eq_false hk]; rfl))]; omega) hMg hlo (by omega)
                · refine sd_iconst C dX5_came_75 (by decide) (fun k75 ek75 => ?_)
                  refine sd_goto C 80 dX5_came_76 (by decide) ?_
                  refine sd_iadd C dX5_came_80 (by omega) (fun z80 ez80 => ?_)
                  refine sd_istore_n (lv' := [(3, .int z80), (4, .int y4), (0, .ref (ad 76)), (1, .int x1), (2, .int x2)]) C dX5_came_81 rfl (by decide) rfl ?_
                  refine sd_iinc C dX5_came_82 1 rfl (by decide) (by decide) (by omega) (fun zz => [(4, .int zz), (3, .int z80), (0, .ref (ad 76)), (1, .int x1), (2, .int x2)]) (fun _ => rfl) (fun u82 eu82 => ?_)
                  refine sd_goto C 33 dX5_came_85 (by decide) ?_
                  exact ih33 z80 u82 (p + 1) s53 (by omega) (by omega) (by
                        by_cases hk : sp_birth β (sp_row β p) = x1.toInt
                        · first
                            | (exfalso; omega)
                            | (rcases h69 with ⟨w1, w2⟩ | ⟨w1, w2⟩
                               · rw [sp_sum_s (v := 1) (sp_b1 (by rw [w2, decide_eq_true hk]; rfl))]; omega
                               · rw [sp_sum_s (v := 0) (sp_b0 (by rw [w2]; simp))]; omega)
                        · rw [sp_sum_s (v := 0) (sp_b0 (by rw [decide_eq_false hk]; rfl))]; omega) hMg hlo (by omega)
      exact key33 _ k28 k30 0 σ (by omega) (by omega) (by rw [sp_sum]; exact ek28) hM (fun _ _ _ => rfl) (Nat.lt_succ_self _)
    · refine sd_sipush C dX5_came_24 (by decide) (fun k24 ek24 => ?_)
      exact hret _ _ _ _ dX5_came_27 (⟨by
          unfold an_came
          rw [if_pos (by omega)]; omega, hM, fun _ _ _ => rfl⟩)

set_option maxRecDepth 20000 in
set_option maxHeartbeats 4000000 in
theorem c_X5_born (l : Launch) (D : va_G) (ad : Nat → Nat) (ca : Nat → ClassId) (T : Nat → Nat) (σ : sd_Mem) (β : sp_B) (hM : sd_MR σ β) (hG : sd_RG β) (x1 : Int32) : sd_Ci l yX5_born cX5_born 2 3 D ad ca T σ [.ref (ad 76), .int x1] (fun r σ' => r.toInt = an_born β x1.toInt ∧ sd_MR σ' β ∧ sd_lo σ σ') := by
  refine sd_ent_i (own := RX5) (by decide) rfl (Nat.le_of_ble_eq_true rfl) (fun X C hret => ?_)
  show sd_Wd X 2 D ad ca σ [(0, .ref (ad 76)), (1, .int x1)] 0 []
  refine sd_aload_n C dX5_born_0 0 rfl rfl ?_
  refine sd_iload_n C dX5_born_1 1 rfl rfl ?_
  refine sd_iconst C dX5_born_2 (by decide) (fun k2 ek2 => ?_)
  refine sd_callVi C (c_X5_came l D ad ca T σ β hM hG x1 k2) mv_X5_came wm_X5_163 (by decide) rfl rfl (by decide) rfl rfl (Nat.le_of_ble_eq_true rfl) dX5_born_3 (fun r3 s3 h3 => ?_)
  try dsimp only at h3
  exact hret _ _ _ _ dX5_born_6 (⟨by rw [← an_born_came, ← ek2]; exact h3.1, h3.2⟩)

set_option maxRecDepth 20000 in
set_option maxHeartbeats 4000000 in
theorem c_X5_digest (l : Launch) (D : va_G) (ad : Nat → Nat) (ca : Nat → ClassId) (T : Nat → Nat) (σ : sd_Mem) (β : sp_B) (hM : sd_MR σ β) (hG : sd_RG β) : sd_Ci l yX5_digest cX5_digest 4 2 D ad ca T σ [.ref (ad 76)] (fun r σ' => r = sp_dg β 24 ∧ sd_MR σ' β ∧ sd_lo σ σ') := by
  refine sd_ent_i (own := RX5) (by decide) rfl (Nat.le_of_ble_eq_true rfl) (fun X C hret => ?_)
  show sd_Wd X 4 D ad ca σ [(0, .ref (ad 76))] 0 []
  have hN := sp_n_le hG
  have hn1 := hM.1.1
  have kk31 : ∀ k : Int32, k.toInt = 31 → k = 31 := fun k h => Int32.toInt_inj.mp (by rw [h]; rfl)
  refine sd_bipush C dX5_digest_0 (by decide) (fun k0 ek0 => ?_)
  refine sd_istore_n (lv' := [(1, .int k0), (0, .ref (ad 76))]) C dX5_digest_2 rfl (by decide) rfl ?_
  refine sd_iconst C dX5_digest_3 (by decide) (fun k3 ek3 => ?_)
  refine sd_istore_n (lv' := [(2, .int k3), (1, .int k0), (0, .ref (ad 76))]) C dX5_digest_4 rfl (by decide) rfl ?_
  have key5 : ∀ (fu5 : Nat) (y1 : Int32) (y2 : Int32) (p : Nat) (τ : sd_Mem), (y2.toInt = (p : Int)) → (p ≤ 24) → (y1 = sp_dg β p) → (sd_MR τ β) → (sd_lo σ τ) → (24 - p < fu5) → sd_Wd X 4 D ad ca τ [(2, .int y2), (1, .int y1), (0, .ref (ad 76))] 5 [] := by
    intro fu5
    induction fu5 with
    | zero => intro y1 y2 p τ h2 hp h1 hMt hlt hm5; exact absurd hm5 (Nat.not_lt_zero _)
    | succ fu5 ih5 =>
      intro y1 y2 p τ h2 hp h1 hMt hlt hm5
      refine sd_iload_n C dX5_digest_5 0 rfl rfl ?_
      refine sd_bipush C dX5_digest_6 (by decide) (fun k6 ek6 => ?_)
      refine sd_icmp_ge C 81 dX5_digest_8 (by decide) (fun c8 => ?_) (fun c8 => ?_)
      · refine sd_iload_n C dX5_digest_81 1 rfl rfl ?_
        exact hret _ _ _ _ dX5_digest_82 (⟨by rw [show (24 : Nat) = p by omega]; exact h1, hMt, hlt⟩)
      · have j1 := hMt.2.2.1 p (by omega)
        refine sd_aload_n C dX5_digest_11 2 rfl rfl ?_
        refine sd_get C (by decide) rfl rfl 5 (by decide) rfl wf_X5_23 dX5_digest_12 ?_
        refine sd_iload_n C dX5_digest_15 0 rfl rfl ?_
        refine sd_iald C (by decide) rfl (p) ⟨by omega, by omega⟩ dX5_digest_16 ?_
        refine sd_if_ge C 75 dX5_digest_17 (by decide) (fun c17 => ?_) (fun c17 => ?_)
        · refine sd_iinc C dX5_digest_75 0 rfl (by decide) (by decide) (by omega) (fun zz => [(2, .int zz), (1, .int y1), (0, .ref (ad 76))]) (fun _ => rfl) (fun u75 eu75 => ?_)
          refine sd_goto C 5 dX5_digest_78 (by decide) ?_
          exact ih5 y1 u75 (p + 1) τ (by omega) (by omega) (by rw [sp_dg, if_neg (by omega)]; exact h1) hMt hlt (by omega)
        · refine sd_aload_n C dX5_digest_20 2 rfl rfl ?_
          refine sd_iload_n C dX5_digest_21 0 rfl rfl ?_
          refine sd_callVv C (c_X5_gather l D ad ca T τ β hMt hG p (by omega) y2 (by omega)) mv_X5_gather wm_X5_109 (by decide) rfl rfl (by decide) rfl rfl (Nat.le_of_ble_eq_true rfl) dX5_digest_22 (fun s22 h22 => ?_)
          try dsimp only at h22
          obtain ⟨hA, hfr⟩ := h22
          have hMg := sd_MR_fr (sd_ga_keep hfr) hMt
          have hlo := hlt.tr (sd_ga_lo hfr)
          have hW := hA.mw hMg hG
          obtain ⟨A1, A2, A3, A4, A5⟩ := id hA
          have hok := sp_row_ok hG p
          refine sd_iconst C dX5_digest_25 (by decide) (fun k25 ek25 => ?_)
          refine sd_istore_n (lv' := [(3, .int k25), (2, .int y2), (1, .int y1), (0, .ref (ad 76))]) C dX5_digest_26 rfl (by decide) rfl ?_
          have key27 : ∀ (fu27 : Nat) (v1 : Int32) (w3 : Int32) (j : Nat), (w3.toInt = (j : Int)) → (j ≤ (sp_row β p).length) → (v1 = sp_dl β (sp_row β p) y1 j) → ((sp_row β p).length - j < fu27) → sd_Wd X 4 D ad ca s22 [(3, .int w3), (1, .int v1), (2, .int y2), (0, .ref (ad 76))] 27 [] := by
            intro fu27
            induction fu27 with
            | zero => intro v1 w3 j h3 hj w1 hm27; exact absurd hm27 (Nat.not_lt_zero _)
            | succ fu27 ih27 =>
              intro v1 w3 j h3 hj w1 hm27
              refine sd_iload_n C dX5_digest_27 0 rfl rfl ?_
              refine sd_aload_n C dX5_digest_28 3 rfl rfl ?_
              refine sd_get C (by decide) rfl rfl 15 (by decide) rfl wf_X5_86 dX5_digest_29 ?_
              refine sd_icmp_ge C 65 dX5_digest_32 (by decide) (fun c32 => ?_) (fun c32 => ?_)
              · refine sd_bipush C dX5_digest_65 (by decide) (fun k65 ek65 => ?_)
                refine sd_iload_n C dX5_digest_67 1 rfl rfl ?_
                refine sd_imulW C dX5_digest_68 ?_
                refine sd_aload_n C dX5_digest_69 3 rfl rfl ?_
                refine sd_pVi C (c_X5_birth l D ad ca T s22 β (sp_row β p) hW) mv_X5_birth wm_X5_119 (by decide) rfl rfl (by decide) rfl rfl (Nat.le_of_ble_eq_true rfl) dX5_digest_70 (fun r70 h70 => ?_)
                try dsimp only at h70
                refine sd_iaddW C dX5_digest_73 ?_
                refine sd_istore_n (lv' := [(1, .int ((k65 * v1) + r70)), (3, .int w3), (2, .int y2), (0, .ref (ad 76))]) C dX5_digest_74 rfl (by decide) rfl ?_
                refine sd_iinc C dX5_digest_75 2 rfl (by decide) (by decide) (by omega) (fun zz => [(2, .int zz), (1, .int ((k65 * v1) + r70)), (3, .int w3), (0, .ref (ad 76))]) (fun _ => rfl) (fun u75 eu75 => ?_)
                refine sd_goto C 5 dX5_digest_78 (by decide) ?_
                exact sd_lv (ih5 ((k65 * v1) + r70) u75 (p + 1) s22 (by omega) (by omega) (by rw [sp_dg, if_pos (by omega), kk31 _ ek65, sd_ofInt h70, w1, h1, show (sp_row β p).length = j by omega]) hMg hlo (by omega)) [0, 1, 3] rfl
              · have t2 := A2 j (by omega)
                have t3 := A5 j (by omega)
                refine sd_bipush C dX5_digest_35 (by decide) (fun k35 ek35 => ?_)
                refine sd_iload_n C dX5_digest_37 1 rfl rfl ?_
                refine sd_imulW C dX5_digest_38 ?_
                refine sd_aload_n C dX5_digest_39 3 rfl rfl ?_
                refine sd_get C (by decide) rfl rfl 13 (by decide) rfl wf_X5_44 dX5_digest_40 ?_
                refine sd_iload_n C dX5_digest_43 0 rfl rfl ?_
                refine sd_iald C (by decide) rfl (j) ⟨by omega, by omega⟩ dX5_digest_44 ?_
                refine sd_iaddW C dX5_digest_45 ?_
                refine sd_istore_n (lv' := [(1, .int ((k35 * v1) + (s22 88 (j)))), (3, .int w3), (2, .int y2), (0, .ref (ad 76))]) C dX5_digest_46 rfl (by decide) rfl ?_
                refine sd_bipush C dX5_digest_47 (by decide) (fun k47 ek47 => ?_)
                refine sd_iload_n C dX5_digest_49 0 rfl rfl ?_
                refine sd_imulW C dX5_digest_50 ?_
                refine sd_aload_n C dX5_digest_51 3 rfl rfl ?_
                refine sd_get C (by decide) rfl rfl 14 (by decide) rfl wf_X5_47 dX5_digest_52 ?_
                refine sd_iload_n C dX5_digest_55 1 rfl rfl ?_
                refine sd_iald C (by decide) rfl (j) ⟨by omega, by omega⟩ dX5_digest_56 ?_
                refine sd_iaddW C dX5_digest_57 ?_
                refine sd_istore_n (lv' := [(1, .int ((k47 * ((k35 * v1) + (s22 88 (j)))) + (s22 89 (j)))), (3, .int w3), (2, .int y2), (0, .ref (ad 76))]) C dX5_digest_58 rfl (by decide) rfl ?_
                refine sd_iinc C dX5_digest_59 1 rfl (by decide) (by decide) (by omega) (fun zz => [(3, .int zz), (1, .int ((k47 * ((k35 * v1) + (s22 88 (j)))) + (s22 89 (j)))), (2, .int y2), (0, .ref (ad 76))]) (fun _ => rfl) (fun u59 eu59 => ?_)
                refine sd_goto C 27 dX5_digest_62 (by decide) ?_
                exact ih27 ((k47 * ((k35 * v1) + (s22 88 (j)))) + (s22 89 (j))) u59 (j + 1) (by omega) (by omega) (by rw [sp_dl, kk31 _ ek35, kk31 _ ek47, w1, sd_ofInt t2, sd_ofInt t3]) (by omega)
          exact sd_lv (key27 _ y1 k25 0 (by omega) (by omega) rfl (Nat.lt_succ_self _)) [0, 2, 1, 3] rfl
  exact key5 _ k0 k3 0 σ (by omega) (by omega) (Int32.toInt_inj.mp (by rw [ek0]; rfl)) hM (fun _ _ _ => rfl) (Nat.lt_succ_self _)

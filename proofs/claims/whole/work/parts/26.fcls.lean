theorem fN_len {β : sp_B} (hG : sd_RG β) (f q : Nat) : (fN β f (sp_row β q)).length ≤ 120 := by
  have h1 := fw_len (β := β) (f := f) (l := sp_row β q) (sp_row β q).length
  have h2 := (sp_row_ok hG q).1
  unfold fN
  omega
theorem fN_rng {β : sp_B} (hG : sd_RG β) (f q : Nat) : 0 ≤ ((fN β f (sp_row β q)).length : Int) ∧ ((fN β f (sp_row β q)).length : Int) ≤ 120 := by
  have := fN_len hG f q
  omega
theorem fN_getD {β : sp_B} {f : Nat} {l : List Nat} {i : Nat} (h : i < (fN β f l).length) : (fN β f l).getD i (0, 0) ∈ fw β f l l.length := by
  show (fN β f l).getD i (0, 0) ∈ fN β f l
  rw [List.getD_eq_getElem?_getD, List.getElem?_eq_getElem h]
  exact List.getElem_mem h
set_option maxRecDepth 20000 in
set_option maxHeartbeats 4000000 in
theorem c_X3_tellWays (l : Launch) (D : va_G) (ad : Nat → Nat) (ca : Nat → ClassId) (T : Nat → Nat) (σ : sd_Mem) (β : sp_B) (q : Nat) (l9 : List Nat) (hW : sd_RW σ β q l9) (hq : q < 24) (f : Nat) (hf : f < 6) : sd_Ci l yX3_tellWays cX3_tellWays 6 3 D ad ca T σ [.ref (ad 13), .ref (ad (64 + f)), .ref (ad (16 + q))] (fun r σ' => r.toInt = ((fN β f l9).length : Int) ∧ sd_sk σ σ' ∧ fP σ' 14 15 (fN β f l9)) := by
  refine sd_ent_i (own := RX3) (by decide) rfl (Nat.le_of_ble_eq_true rfl) (fun X C hret => ?_)
  show sd_Wd X 6 D ad ca σ [(0, .ref (ad 13)), (1, .ref (ad (64 + f))), (2, .ref (ad (16 + q)))] 0 []
  have hz := hW.2.2.1.1
  have hl9 := hW.2.2.2.1
  have t1 := hW.1.2.2.2.2.1 f hf
  have t2 := hW.2.1.2.2.2.2.1 f hf
  refine sd_iconst C dX3_tellWays_0 (by decide) (fun k0 ek0 => ?_)
  refine sd_istore_n (lv' := [(3, .int k0), (0, .ref (ad 13)), (1, .ref (ad (64 + f))), (2, .ref (ad (16 + q)))]) C dX3_tellWays_1 rfl (by decide) rfl ?_
  refine sd_iconst C dX3_tellWays_2 (by decide) (fun k2 ek2 => ?_)
  refine sd_istore (lv' := [(4, .int k2), (3, .int k0), (0, .ref (ad 13)), (1, .ref (ad (64 + f))), (2, .ref (ad (16 + q)))]) C dX3_tellWays_3 (by decide) rfl ?_
  refine sd_iconst C dX3_tellWays_5 (by decide) (fun k5 ek5 => ?_)
  refine sd_istore (lv' := [(5, .int k5), (4, .int k2), (3, .int k0), (0, .ref (ad 13)), (1, .ref (ad (64 + f))), (2, .ref (ad (16 + q)))]) C dX3_tellWays_6 (by decide) rfl ?_
  have key8 : ∀ (fu8 : Nat) (y3 : Int32) (y4 : Int32) (y5 : Int32) (j : Nat) (n : Nat) (τ : sd_Mem), (y5.toInt = (j : Int)) → (j ≤ l9.length) → (y3.toInt = (n : Int)) → (n = (fw β f l9 j).length) → (fC β f l9 (fw β f l9 j) y4.toInt) → (sd_sk σ τ) → (fP τ 14 15 (fw β f l9 j)) → (l9.length - j < fu8) → sd_Wd X 6 D ad ca τ [(5, .int y5), (4, .int y4), (3, .int y3), (0, .ref (ad 13)), (1, .ref (ad (64 + f))), (2, .ref (ad (16 + q)))] 8 [] := by
    intro fu8
    induction fu8 with
    | zero => intro y3 y4 y5 j n τ h5 hj h3 hn hC9 skt hP9 hm8; exact absurd hm8 (Nat.not_lt_zero _)
    | succ fu8 ih8 =>
      intro y3 y4 y5 j n τ h5 hj h3 hn hC9 skt hP9 hm8
      have hWt := sd_RW_sk skt hW
      have hzt := hWt.2.2.1.1
      have hwl := fw_len (β := β) (f := f) (l := l9) j
      refine sd_iload C dX3_tellWays_8 0 rfl ?_
      refine sd_aload_n C dX3_tellWays_10 5 rfl rfl ?_
      refine sd_get C (by omega) (sd_cell_row _ (by omega)) rfl 2 (by decide) rfl wf_X3_18 dX3_tellWays_11 ?_
      refine sd_icmp_ge C 90 dX3_tellWays_14 (by decide) (fun c14 => ?_) (fun c14 => ?_)
      · refine sd_iload_n C dX3_tellWays_90 2 rfl rfl ?_
        exact hret _ _ _ _ dX3_tellWays_91 (by
            have ej : l9.length = j := by omega
            unfold fN
            rw [ej]
            exact ⟨by omega, skt, hP9⟩)
      · have t6 := hWt.at (j := j) (by omega)
        have hmay := fC_may hC9 (j := j) t6.2.2.2.2.2.2.1
        refine sd_aload_n C dX3_tellWays_17 5 rfl rfl ?_
        refine sd_iload C dX3_tellWays_18 0 rfl ?_
        refine sd_pVi C (c_X2_timeAt l D ad ca T τ β q (j) l9 hWt hq y5 (by omega) (by omega)) mv_X2_timeAt wm_X3_24 (by omega) (sd_cell_row _ (by omega)) rfl (by decide) rfl rfl (Nat.le_of_ble_eq_true rfl) dX3_tellWays_20 (fun r20 h20 => ?_)
        try dsimp only at h20
        refine sd_iload C dX3_tellWays_23 1 rfl ?_
        refine sd_icmp_le C 84 dX3_tellWays_25 (by decide) (fun c25 => ?_) (fun c25 => ?_)
        · refine sd_iinc C dX3_tellWays_84 0 rfl (by decide) (by decide) (by omega) (fun zz => [(5, .int zz), (4, .int y4), (3, .int y3), (0, .ref (ad 13)), (1, .ref (ad (64 + f))), (2, .ref (ad (16 + q)))]) (fun _ => rfl) (fun u84 eu84 => ?_)
          refine sd_goto C 8 dX3_tellWays_87 (by decide) ?_
          exact ih8 y3 y4 u84 (j + 1) n τ (by omega) (by omega) h3 (by rw [fw_no (Or.inl (by rw [hmay]; exact decide_eq_false (by omega)))]; exact hn) (by rw [fw_no (Or.inl (by rw [hmay]; exact decide_eq_false (by omega)))]; exact hC9) skt (by rw [fw_no (Or.inl (by rw [hmay]; exact decide_eq_false (by omega)))]; exact hP9) (by omega)
        · refine sd_aload_n C dX3_tellWays_28 3 rfl rfl ?_
          refine sd_iload C dX3_tellWays_29 0 rfl ?_
          refine sd_aload_n C dX3_tellWays_31 4 rfl rfl ?_
          refine sd_aload_n C dX3_tellWays_32 5 rfl rfl ?_
          refine sd_callVv C (c_X3_seekFrom l D ad ca T τ β q l9 hWt hq f hf j (by omega) y5 (by omega)) mv_X3_seekFrom wm_X3_28 (by decide) rfl rfl (by decide) rfl rfl (Nat.le_of_ble_eq_true rfl) dX3_tellWays_33 (fun s33 h33 => ?_)
          try dsimp only at h33
          obtain ⟨sf1, sf2, sf3, sf4⟩ := h33
          have sks : sd_sk σ s33 := skt.tr (fun i k q1 _ _ => sf1 i k q1)
          have hWs := sd_RW_sk sks hW
          have hzs := hWs.2.2.1.1
          refine sd_aload_n C dX3_tellWays_36 3 rfl rfl ?_
          refine sd_get C (by decide) rfl rfl 3 (by decide) rfl wf_X3_32 dX3_tellWays_37 ?_
          refine sd_iconst C dX3_tellWays_40 (by decide) (fun k40 ek40 => ?_)
          refine sd_icmp_eq C 84 dX3_tellWays_41 (by decide) (fun c41 => ?_) (fun c41 => ?_)
          · refine sd_iinc C dX3_tellWays_84 0 rfl (by decide) (by decide) (by omega) (fun zz => [(5, .int zz), (4, .int y4), (3, .int y3), (0, .ref (ad 13)), (1, .ref (ad (64 + f))), (2, .ref (ad (16 + q)))]) (fun _ => rfl) (fun u84 eu84 => ?_)
            refine sd_goto C 8 dX3_tellWays_87 (by decide) ?_
            have hnone : (s33 13 3).toInt = -1 → fE β f l9 (β 7 f).toNat j = none := by
              intro w
              rcases fEi_cases sf4 with ⟨w1, w2⟩ | ⟨ee, w1, w2⟩
              · exact w2
              · exfalso; omega
            have hPs : fP s33 14 15 (fw β f l9 j) := fun i hi => by rw [sf1 14 i (by decide), sf1 15 i (by decide)]; exact hP9 i hi
            exact ih8 y3 y4 u84 (j + 1) n s33 (by omega) (by omega) h3 (by rw [fw_no (Or.inr (hnone (by omega)))]; exact hn) (by rw [fw_no (Or.inr (hnone (by omega)))]; exact hC9) sks (by rw [fw_no (Or.inr (hnone (by omega)))]; exact hPs) (by omega)
          · refine sd_iload_n C dX3_tellWays_44 2 rfl rfl ?_
            refine sd_bipush C dX3_tellWays_45 (by decide) (fun k45 ek45 => ?_)
            refine sd_icmp_ge C 84 dX3_tellWays_47 (by decide) (fun c47 => ?_) (fun c47 => ?_)
            · exact absurd c47 (by omega)
            · rcases fEi_cases sf4 with ⟨w1, w2⟩ | ⟨ee, w1, w2⟩
              · exfalso; omega
              have wmem := fw_len (β := β) (f := f) (l := l9) j
              refine sd_aload_n C dX3_tellWays_50 3 rfl rfl ?_
              refine sd_get C (by decide) rfl rfl 0 (by decide) rfl wf_X3_9 dX3_tellWays_51 ?_
              refine sd_iload_n C dX3_tellWays_54 2 rfl rfl ?_
              refine sd_iload C dX3_tellWays_55 0 rfl ?_
              refine sd_iast C (by decide) (fun _ => rfl) (n) ⟨by omega, by omega⟩ dX3_tellWays_57 (fun s57 es57 => ?_)
              have f57 : s57 13 3 = s33 13 3 := by rw [es57, sd_st_ne (by decide)]
              refine sd_aload_n C dX3_tellWays_58 3 rfl rfl ?_
              refine sd_get C (by decide) rfl rfl 1 (by decide) rfl wf_X3_15 dX3_tellWays_59 ?_
              refine sd_iload_n C dX3_tellWays_62 2 rfl rfl ?_
              refine sd_aload_n C dX3_tellWays_63 3 rfl rfl ?_
              refine sd_get C (by decide) rfl rfl 3 (by decide) rfl wf_X3_32 dX3_tellWays_64 ?_
              refine sd_iast C (by decide) (fun _ => rfl) (n) ⟨by omega, by omega⟩ dX3_tellWays_67 (fun s67 es67 => ?_)
              refine sd_iinc C dX3_tellWays_68 2 rfl (by decide) (by decide) (by omega) (fun zz => [(3, .int zz), (5, .int y5), (4, .int y4), (0, .ref (ad 13)), (1, .ref (ad (64 + f))), (2, .ref (ad (16 + q)))]) (fun _ => rfl) (fun u68 eu68 => ?_)
              have sku : sd_sk σ s67 := by rw [es67, es57]; exact ((sks).st (Or.inr (Or.inl rfl))).st (Or.inr (Or.inr rfl))
              have hWu := sd_RW_sk sku hW
              have t7 := hWu.1.2.2.2.2.1 f hf
              refine sd_aload_n C dX3_tellWays_71 5 rfl rfl ?_
              refine sd_iload C dX3_tellWays_72 1 rfl ?_
              refine sd_pVi C (c_X2_timeAt l D ad ca T s67 β q (j) l9 hWu hq y5 (by omega) (by omega)) mv_X2_timeAt wm_X3_24 (by omega) (sd_cell_row _ (by omega)) rfl (by decide) rfl rfl (Nat.le_of_ble_eq_true rfl) dX3_tellWays_74 (fun r74 h74 => ?_)
              try dsimp only at h74
              refine sd_aload_n C dX3_tellWays_77 4 rfl rfl ?_
              refine sd_get C (by omega) (sd_cell_fun _ (by omega)) rfl 3 (by decide) rfl wf_X3_35 dX3_tellWays_78 ?_
              refine sd_iadd C dX3_tellWays_81 (by omega) (fun z81 ez81 => ?_)
              refine sd_istore (lv' := [(4, .int z81), (3, .int u68), (5, .int y5), (0, .ref (ad 13)), (1, .ref (ad (64 + f))), (2, .ref (ad (16 + q)))]) C dX3_tellWays_82 (by decide) rfl ?_
              refine sd_iinc C dX3_tellWays_84 2 rfl (by decide) (by decide) (by omega) (fun zz => [(5, .int zz), (4, .int z81), (3, .int u68), (0, .ref (ad 13)), (1, .ref (ad (64 + f))), (2, .ref (ad (16 + q)))]) (fun _ => rfl) (fun u84 eu84 => ?_)
              refine sd_goto C 8 dX3_tellWays_87 (by decide) ?_
              have hyes := fw_yes (by rw [hmay]; exact decide_eq_true (by omega)) w2
              have hPu : fP s67 14 15 (fw β f l9 j ++ [(j, j + ee)]) := by
                refine fP_app (σ := τ) hP9 ?_ ?_ (fun i hi => ?_)
                · rw [← hn, es67, sd_st_ne (by decide), es57, sd_st_at]; exact h5
                · rw [← hn, es67, sd_st_at, f57, w1]; show (j : Int) + (ee : Int) = ((j + ee : Nat) : Int); omega
                · exact ⟨by rw [es67, sd_st_ne (by decide), es57, sd_st_nk (by omega), sf1 14 i (by decide)], by rw [es67, sd_st_nk (by omega), es57, sd_st_ne (by decide), sf1 15 i (by decide)]⟩
              exact ih8 u68 z81 u84 (j + 1) (n + 1) s67 (by omega) (by omega) (by omega) (by rw [hyes, List.length_append]; simp; exact hn) (by rw [hyes]; exact fC_app (by omega)) sku (by rw [hyes]; exact hPu) (by omega)
  exact key8 _ k0 k2 k5 0 0 σ (by omega) (by omega) (by omega) rfl ek2 (sd_sk.rf σ) (fun i hi => absurd hi (Nat.not_lt_zero i)) (Nat.lt_succ_self _)

set_option maxRecDepth 20000 in
set_option maxHeartbeats 4000000 in
theorem c_X3_farthest (l : Launch) (D : va_G) (ad : Nat → Nat) (ca : Nat → ClassId) (T : Nat → Nat) (σ : sd_Mem) (β : sp_B) (q : Nat) (l9 : List Nat) (hW : sd_RW σ β q l9) (hq : q < 24) (f : Nat) (hf : f < 6) : sd_Ci l yX3_farthest cX3_farthest 5 3 D ad ca T σ [.ref (ad 13), .ref (ad (64 + f)), .ref (ad (16 + q))] (fun r σ' => r.toInt = (fR β f l9 : Int) ∧ sd_sk σ σ') := by
  refine sd_ent_i (own := RX3) (by decide) rfl (Nat.le_of_ble_eq_true rfl) (fun X C hret => ?_)
  show sd_Wd X 5 D ad ca σ [(0, .ref (ad 13)), (1, .ref (ad (64 + f))), (2, .ref (ad (16 + q)))] 0 []
  have hz := hW.2.2.1.1
  have hl9 := hW.2.2.2.1
  have t1 := hW.1.2.2.2.2.1 f hf
  have t2 := hW.2.1.2.2.2.2.1 f hf
  refine sd_iconst C dX3_farthest_0 (by decide) (fun k0 ek0 => ?_)
  refine sd_istore_n (lv' := [(3, .int k0), (0, .ref (ad 13)), (1, .ref (ad (64 + f))), (2, .ref (ad (16 + q)))]) C dX3_farthest_1 rfl (by decide) rfl ?_
  refine sd_iconst C dX3_farthest_2 (by decide) (fun k2 ek2 => ?_)
  refine sd_istore (lv' := [(4, .int k2), (3, .int k0), (0, .ref (ad 13)), (1, .ref (ad (64 + f))), (2, .ref (ad (16 + q)))]) C dX3_farthest_3 (by decide) rfl ?_
  have key5 : ∀ (fu5 : Nat) (y3 : Int32) (y4 : Int32) (j : Nat) (b : Nat) (τ : sd_Mem), (y4.toInt = (j : Int)) → (j ≤ l9.length) → (y3.toInt = (b : Int)) → (fB β f l9 j b) → (sd_sk σ τ) → (l9.length - j < fu5) → sd_Wd X 5 D ad ca τ [(4, .int y4), (3, .int y3), (0, .ref (ad 13)), (1, .ref (ad (64 + f))), (2, .ref (ad (16 + q)))] 5 [] := by
    intro fu5
    induction fu5 with
    | zero => intro y3 y4 j b τ h4 hj h3 hB9 skt hm5; exact absurd hm5 (Nat.not_lt_zero _)
    | succ fu5 ih5 =>
      intro y3 y4 j b τ h4 hj h3 hB9 skt hm5
      have hWt := sd_RW_sk skt hW
      have hzt := hWt.2.2.1.1
      have t3 := hWt.1.2.2.2.2.1 f hf
      refine sd_iload C dX3_farthest_5 0 rfl ?_
      refine sd_aload_n C dX3_farthest_7 4 rfl rfl ?_
      refine sd_get C (by omega) (sd_cell_row _ (by omega)) rfl 2 (by decide) rfl wf_X3_18 dX3_farthest_8 ?_
      refine sd_icmp_ge C 45 dX3_farthest_11 (by decide) (fun c11 => ?_) (fun c11 => ?_)
      · refine sd_iload_n C dX3_farthest_45 1 rfl rfl ?_
        exact hret _ _ _ _ dX3_farthest_46 (⟨by rw [fB_end hB9 hj (by omega)]; exact h3, skt⟩)
      · refine sd_iload_n C dX3_farthest_14 1 rfl rfl ?_
        refine sd_aload_n C dX3_farthest_15 3 rfl rfl ?_
        refine sd_get C (by omega) (sd_cell_fun _ (by omega)) rfl 1 (by decide) rfl wf_X3_40 dX3_farthest_16 ?_
        refine sd_icmp_ge C 45 dX3_farthest_19 (by decide) (fun c19 => ?_) (fun c19 => ?_)
        · refine sd_iload_n C dX3_farthest_45 1 rfl rfl ?_
          exact hret _ _ _ _ dX3_farthest_46 (⟨by rw [fB_end hB9 hj (by omega)]; exact h3, skt⟩)
        · refine sd_aload_n C dX3_farthest_22 2 rfl rfl ?_
          refine sd_iload C dX3_farthest_23 0 rfl ?_
          refine sd_aload_n C dX3_farthest_25 3 rfl rfl ?_
          refine sd_aload_n C dX3_farthest_26 4 rfl rfl ?_
          refine sd_callVv C (c_X3_seekFrom l D ad ca T τ β q l9 hWt hq f hf j (by omega) y4 (by omega)) mv_X3_seekFrom wm_X3_28 (by decide) rfl rfl (by decide) rfl rfl (Nat.le_of_ble_eq_true rfl) dX3_farthest_27 (fun s27 h27 => ?_)
          try dsimp only at h27
          obtain ⟨sf1, sf2, sf3, sf4⟩ := h27
          have sks : sd_sk σ s27 := skt.tr (fun i k q1 _ _ => sf1 i k q1)
          have hWs := sd_RW_sk sks hW
          have hzs := hWs.2.2.1.1
          refine sd_iload_n C dX3_farthest_30 1 rfl rfl ?_
          refine sd_aload_n C dX3_farthest_31 2 rfl rfl ?_
          refine sd_get C (by decide) rfl rfl 2 (by decide) rfl wf_X3_41 dX3_farthest_32 ?_
          refine sd_max C wm_X3_44 (by decide) (Nat.le_of_ble_eq_true rfl) dX3_farthest_35 (fun z35 ez35 => ?_)
          refine sd_istore_n (lv' := [(3, .int z35), (4, .int y4), (0, .ref (ad 13)), (1, .ref (ad (64 + f))), (2, .ref (ad (16 + q)))]) C dX3_farthest_38 rfl (by decide) rfl ?_
          refine sd_iinc C dX3_farthest_39 1 rfl (by decide) (by decide) (by omega) (fun zz => [(4, .int zz), (3, .int z35), (0, .ref (ad 13)), (1, .ref (ad (64 + f))), (2, .ref (ad (16 + q)))]) (fun _ => rfl) (fun u39 eu39 => ?_)
          refine sd_goto C 5 dX3_farthest_42 (by decide) ?_
          obtain ⟨b', hb1, hb2⟩ : ∃ b' : Nat, z35.toInt = (b' : Int) ∧ ((b' = b ∧ fD β f l9 j ≤ b) ∨ (b' = fD β f l9 j ∧ b < b')) := by
            rcases ez35 with ⟨w1, w2⟩ | ⟨w1, w2⟩
            · rw [w1]; exact ⟨b, h3, Or.inl ⟨rfl, by omega⟩⟩
            · rw [w1]; exact ⟨_, sf3, Or.inr ⟨rfl, by omega⟩⟩
          exact ih5 z35 u39 (j + 1) b' s27 (by omega) (by omega) hb1 (fB_step hB9 hb2) sks (by omega)
  exact key5 _ k0 k2 0 0 σ (by omega) (by omega) (by omega) fB_0 (sd_sk.rf σ) (Nat.lt_succ_self _)

set_option maxRecDepth 20000 in
set_option maxHeartbeats 4000000 in
theorem c_X4_ways (l : Launch) (D : va_G) (ad : Nat → Nat) (ca : Nat → ClassId) (T : Nat → Nat) (σ : sd_Mem) (β : sp_B) (hS : sd_CS σ β) (x1 x2 : Int32) : sd_Ci l yX4_ways cX4_ways 5 4 D ad ca T σ [.ref (ad 0), .int x1, .int x2] (fun r σ' => r.toInt = an_ways β x1.toInt x2.toInt ∧ sd_CS σ' β ∧ sd_hi σ σ') := by
  refine sd_ent_i (own := RX4) (by decide) rfl (Nat.le_of_ble_eq_true rfl) (fun X C hret => ?_)
  show sd_Wd X 5 D ad ca σ [(0, .ref (ad 0)), (1, .int x1), (2, .int x2)] 0 []
  obtain ⟨hC, hG, hB, hL⟩ := id hS
  have n2 := hC.1.2
  have n3 := hG.1
  refine sd_aload_n C dX4_ways_0 0 rfl rfl ?_
  refine sd_iload_n C dX4_ways_1 1 rfl rfl ?_
  refine sd_pVz C (c_X4_isFunnel l D ad ca T σ x1) mv_X4_isFunnel wm_X4_145 (by decide) rfl rfl (by decide) rfl rfl (Nat.le_of_ble_eq_true rfl) dX4_ways_2 (fun r2 h2 => ?_)
  try dsimp only at h2
  refine sd_if_eq C 20 dX4_ways_5 (by decide) (fun c5 => ?_) (fun c5 => ?_)
  · refine sd_sipush C dX4_ways_20 (by decide) (fun k20 ek20 => ?_)
    exact hret _ _ _ _ dX4_ways_23 (⟨by
        unfold an_ways
        repeat' split
        all_goals omega, hS, fun _ _ _ => rfl⟩)
  · refine sd_iload_n C dX4_ways_8 2 rfl rfl ?_
    refine sd_iconst C dX4_ways_9 (by decide) (fun k9 ek9 => ?_)
    refine sd_icmp_eq C 24 dX4_ways_10 (by decide) (fun c10 => ?_) (fun c10 => ?_)
    · refine sd_iload_n C dX4_ways_24 2 rfl rfl ?_
      refine sd_iconst C dX4_ways_25 (by decide) (fun k25 ek25 => ?_)
      refine sd_icmp_eq C 54 dX4_ways_26 (by decide) (fun c26 => ?_) (fun c26 => ?_)
      · refine sd_iconst C dX4_ways_54 (by decide) (fun k54 ek54 => ?_)
        refine sd_istore_n (lv' := [(3, .int k54), (0, .ref (ad 0)), (1, .int x1), (2, .int x2)]) C dX4_ways_55 rfl (by decide) rfl ?_
        refine sd_iconst C dX4_ways_56 (by decide) (fun k56 ek56 => ?_)
        refine sd_istore (lv' := [(4, .int k56), (3, .int k54), (0, .ref (ad 0)), (1, .int x1), (2, .int x2)]) C dX4_ways_57 (by decide) rfl ?_
        have key59 : ∀ (fu59 : Nat) (y3 : Int32) (y4 : Int32) (p : Nat) (τ : sd_Mem), (y4.toInt = (p : Int)) → (p ≤ 24) → (y3.toInt = sp_sum (fun q => ((fN β x1.toInt.toNat (sp_row β q)).length : Int)) p) → (sd_sk σ τ) → (0 ≤ x1.toInt ∧ x1.toInt < β 0 1 ∧ x2.toInt = -1) → (24 - p < fu59) → sd_Wd X 5 D ad ca τ [(4, .int y4), (3, .int y3), (0, .ref (ad 0)), (1, .int x1), (2, .int x2)] 59 [] := by
          intro fu59
          induction fu59 with
          | zero => intro y3 y4 p τ h4 hp h3 skt hvf hm59; exact absurd hm59 (Nat.not_lt_zero _)
          | succ fu59 ih59 =>
            intro y3 y4 p τ h4 hp h3 skt hvf hm59
            have hSt := sd_CS_sk skt hS
            obtain ⟨hCt, -, -, hLt⟩ := id hSt
            have hr := sp_sum_rng (f := (fun q => ((fN β x1.toInt.toNat (sp_row β q)).length : Int))) (m := 120) (fun q => fN_rng hG x1.toInt.toNat q) p
            refine sd_iload C dX4_ways_59 0 rfl ?_
            refine sd_bipush C dX4_ways_61 (by decide) (fun k61 ek61 => ?_)
            refine sd_icmp_ge C 95 dX4_ways_63 (by decide) (fun c63 => ?_) (fun c63 => ?_)
            · refine sd_iload_n C dX4_ways_95 1 rfl rfl ?_
              exact hret _ _ _ _ dX4_ways_96 (⟨by
                  unfold an_ways
                  rw [if_neg (by omega), if_pos (by omega), show (24 : Nat) = p by omega]; exact h3, hSt, sd_hi_sk skt⟩)
            · have hfl := fN_len hG x1.toInt.toNat p
              refine sd_iload_n C dX4_ways_66 1 rfl rfl ?_
              refine sd_aload_n C dX4_ways_67 2 rfl rfl ?_
              refine sd_get C (by decide) rfl rfl 8 (by decide) rfl wf_X4_52 dX4_ways_68 ?_
              refine sd_aload_n C dX4_ways_71 2 rfl rfl ?_
              refine sd_get C (by decide) rfl rfl 6 (by decide) rfl wf_X4_40 dX4_ways_72 ?_
              refine sd_iload_n C dX4_ways_75 3 rfl rfl ?_
              refine sd_aald12 C (x1.toInt.toNat) ⟨by omega, by omega⟩ dX4_ways_76 ?_
              refine sd_aload_n C dX4_ways_77 2 rfl rfl ?_
              refine sd_get C (by decide) rfl rfl 3 (by decide) rfl wf_X4_22 dX4_ways_78 ?_
              refine sd_iload C dX4_ways_81 0 rfl ?_
              refine sd_aald9 C (p) ⟨by omega, by omega⟩ dX4_ways_83 ?_
              refine sd_callVi C (c_X3_tellWays l D ad ca T τ β p (sp_row β p) ((hLt.1 p (by omega)).rw hCt hG) (by omega) x1.toInt.toNat (by omega)) mv_X3_tellWays wm_X4_152 (by decide) rfl rfl (by decide) rfl rfl (Nat.le_of_ble_eq_true rfl) dX4_ways_84 (fun r84 s84 h84 => ?_)
              try dsimp only at h84
              refine sd_iadd C dX4_ways_87 (by omega) (fun z87 ez87 => ?_)
              refine sd_istore_n (lv' := [(3, .int z87), (4, .int y4), (0, .ref (ad 0)), (1, .int x1), (2, .int x2)]) C dX4_ways_88 rfl (by decide) rfl ?_
              refine sd_iinc C dX4_ways_89 1 rfl (by decide) (by decide) (by omega) (fun zz => [(4, .int zz), (3, .int z87), (0, .ref (ad 0)), (1, .int x1), (2, .int x2)]) (fun _ => rfl) (fun u89 eu89 => ?_)
              refine sd_goto C 59 dX4_ways_92 (by decide) ?_
              exact ih59 z87 u89 (p + 1) s84 (by omega) (by omega) (by rw [sp_sum, ez87, h84.1]; omega) (skt.tr h84.2.1) hvf (by omega)
        exact key59 _ k54 k56 0 σ (by omega) (by omega) (by rw [sp_sum]; exact ek54) (sd_sk.rf σ) (by omega) (Nat.lt_succ_self _)
      · have p1 := hC.2.2.1 x2.toInt.toNat (by omega)
        have p2 := hG.2.2.1 x2.toInt.toNat (by omega)
        have hq : sp_q β x2.toInt < 24 := by unfold sp_q; omega
        have hqe : (σ 7 x2.toInt.toNat).toInt = (sp_q β x2.toInt : Int) := by unfold sp_q; omega
        have hLr := hL.1 _ hq
        have hW := hLr.rw hC hG
        have hok := sp_row_ok hG (sp_q β x2.toInt)
        refine sd_aload_n C dX4_ways_29 0 rfl rfl ?_
        refine sd_get C (by decide) rfl rfl 8 (by decide) rfl wf_X4_52 dX4_ways_30 ?_
        refine sd_aload_n C dX4_ways_33 0 rfl rfl ?_
        refine sd_get C (by decide) rfl rfl 6 (by decide) rfl wf_X4_40 dX4_ways_34 ?_
        refine sd_iload_n C dX4_ways_37 1 rfl rfl ?_
        refine sd_aald12 C (x1.toInt.toNat) ⟨by omega, by omega⟩ dX4_ways_38 ?_
        refine sd_aload_n C dX4_ways_39 0 rfl rfl ?_
        refine sd_get C (by decide) rfl rfl 3 (by decide) rfl wf_X4_22 dX4_ways_40 ?_
        refine sd_aload_n C dX4_ways_43 0 rfl rfl ?_
        refine sd_get C (by decide) rfl rfl 1 (by decide) rfl wf_X4_16 dX4_ways_44 ?_
        refine sd_iload_n C dX4_ways_47 2 rfl rfl ?_
        refine sd_iald C (by decide) rfl (x2.toInt.toNat) ⟨by omega, by omega⟩ dX4_ways_48 ?_
        refine sd_aald9 C (sp_q β x2.toInt) ⟨by omega, by omega⟩ dX4_ways_49 ?_
        refine sd_callVi C (c_X3_tellWays l D ad ca T σ β (sp_q β x2.toInt) (sp_row β (sp_q β x2.toInt)) hW hq x1.toInt.toNat (by omega)) mv_X3_tellWays wm_X4_152 (by decide) rfl rfl (by decide) rfl rfl (Nat.le_of_ble_eq_true rfl) dX4_ways_50 (fun r50 s50 h50 => ?_)
        try dsimp only at h50
        exact hret _ _ _ _ dX4_ways_53 (⟨by
            rw [h50.1]
            unfold an_ways
            rw [if_neg (by omega), if_neg (by omega)], sd_CS_sk h50.2.1 hS, sd_hi_sk h50.2.1⟩)
    · refine sd_iload_n C dX4_ways_13 2 rfl rfl ?_
      refine sd_pSz C (c_X4_isWho l D ad ca T σ x2) mv_X4_isWho wm_X4_56 (by decide) rfl rfl (Nat.le_of_ble_eq_true rfl) dX4_ways_14 (fun r14 h14 => ?_)
      try dsimp only at h14
      refine sd_if_ne C 24 dX4_ways_17 (by decide) (fun c17 => ?_) (fun c17 => ?_)
      · refine sd_iload_n C dX4_ways_24 2 rfl rfl ?_
        refine sd_iconst C dX4_ways_25 (by decide) (fun k25 ek25 => ?_)
        refine sd_icmp_eq C 54 dX4_ways_26 (by decide) (fun c26 => ?_) (fun c26 => ?_)
        · refine sd_iconst C dX4_ways_54 (by decide) (fun k54 ek54 => ?_)
          refine sd_istore_n (lv' := [(3, .int k54), (0, .ref (ad 0)), (1, .int x1), (2, .int x2)]) C dX4_ways_55 rfl (by decide) rfl ?_
          refine sd_iconst C dX4_ways_56 (by decide) (fun k56 ek56 => ?_)
          refine sd_istore (lv' := [(4, .int k56), (3, .int k54), (0, .ref (ad 0)), (1, .int x1), (2, .int x2)]) C dX4_ways_57 (by decide) rfl ?_
          have key59 : ∀ (fu59 : Nat) (y3 : Int32) (y4 : Int32) (p : Nat) (τ : sd_Mem), (y4.toInt = (p : Int)) → (p ≤ 24) → (y3.toInt = sp_sum (fun q => ((fN β x1.toInt.toNat (sp_row β q)).length : Int)) p) → (sd_sk σ τ) → (0 ≤ x1.toInt ∧ x1.toInt < β 0 1 ∧ x2.toInt = -1) → (24 - p < fu59) → sd_Wd X 5 D ad ca τ [(4, .int y4), (3, .int y3), (0, .ref (ad 0)), (1, .int x1), (2, .int x2)] 59 [] := by
            intro fu59
            induction fu59 with
            | zero => intro y3 y4 p τ h4 hp h3 skt hvf hm59; exact absurd hm59 (Nat.not_lt_zero _)
            | succ fu59 ih59 =>
              intro y3 y4 p τ h4 hp h3 skt hvf hm59
              have hSt := sd_CS_sk skt hS
              obtain ⟨hCt, -, -, hLt⟩ := id hSt
              have hr := sp_sum_rng (f := (fun q => ((fN β x1.toInt.toNat (sp_row β q)).length : Int))) (m := 120) (fun q => fN_rng hG x1.toInt.toNat q) p
              refine sd_iload C dX4_ways_59 0 rfl ?_
              refine sd_bipush C dX4_ways_61 (by decide) (fun k61 ek61 => ?_)
              refine sd_icmp_ge C 95 dX4_ways_63 (by decide) (fun c63 => ?_) (fun c63 => ?_)
              · refine sd_iload_n C dX4_ways_95 1 rfl rfl ?_
                exact hret _ _ _ _ dX4_ways_96 (⟨by
                    unfold an_ways
                    rw [if_neg (by omega), if_pos (by omega), show (24 : Nat) = p by omega]; exact h3, hSt, sd_hi_sk skt⟩)
              · have hfl := fN_len hG x1.toInt.toNat p
                refine sd_iload_n C dX4_ways_66 1 rfl rfl ?_
                refine sd_aload_n C dX4_ways_67 2 rfl rfl ?_
                refine sd_get C (by decide) rfl rfl 8 (by decide) rfl wf_X4_52 dX4_ways_68 ?_
                refine sd_aload_n C dX4_ways_71 2 rfl rfl ?_
                refine sd_get C (by decide) rfl rfl 6 (by decide) rfl wf_X4_40 dX4_ways_72 ?_
                refine sd_iload_n C dX4_ways_75 3 rfl rfl ?_
                refine sd_aald12 C (x1.toInt.toNat) ⟨by omega, by omega⟩ dX4_ways_76 ?_
                refine sd_aload_n C dX4_ways_77 2 rfl rfl ?_
                refine sd_get C (by decide) rfl rfl 3 (by decide) rfl wf_X4_22 dX4_ways_78 ?_
                refine sd_iload C dX4_ways_81 0 rfl ?_
                refine sd_aald9 C (p) ⟨by omega, by omega⟩ dX4_ways_83 ?_
                refine sd_callVi C (c_X3_tellWays l D ad ca T τ β p (sp_row β p) ((hLt.1 p (by omega)).rw hCt hG) (by omega) x1.toInt.toNat (by omega)) mv_X3_tellWays wm_X4_152 (by decide) rfl rfl (by decide) rfl rfl (Nat.le_of_ble_eq_true rfl) dX4_ways_84 (fun r84 s84 h84 => ?_)
                try dsimp only at h84
                refine sd_iadd C dX4_ways_87 (by omega) (fun z87 ez87 => ?_)
                refine sd_istore_n (lv' := [(3, .int z87), (4, .int y4), (0, .ref (ad 0)), (1, .int x1), (2, .int x2)]) C dX4_ways_88 rfl (by decide) rfl ?_
                refine sd_iinc C dX4_ways_89 1 rfl (by decide) (by decide) (by omega) (fun zz => [(4, .int zz), (3, .int z87), (0, .ref (ad 0)), (1, .int x1), (2, .int x2)]) (fun _ => rfl) (fun u89 eu89 => ?_)
                refine sd_goto C 59 dX4_ways_92 (by decide) ?_
                exact ih59 z87 u89 (p + 1) s84 (by omega) (by omega) (by rw [sp_sum, ez87, h84.1]; omega) (skt.tr h84.2.1) hvf (by omega)
          exact key59 _ k54 k56 0 σ (by omega) (by omega) (by rw [sp_sum]; exact ek54) (sd_sk.rf σ) (by omega) (Nat.lt_succ_self _)
        · have p1 := hC.2.2.1 x2.toInt.toNat (by omega)
          have p2 := hG.2.2.1 x2.toInt.toNat (by omega)
          have hq : sp_q β x2.toInt < 24 := by unfold sp_q; omega
          have hqe : (σ 7 x2.toInt.toNat).toInt = (sp_q β x2.toInt : Int) := by unfold sp_q; omega
          have hLr := hL.1 _ hq
          have hW := hLr.rw hC hG
          have hok := sp_row_ok hG (sp_q β x2.toInt)
          refine sd_aload_n C dX4_ways_29 0 rfl rfl ?_
          refine sd_get C (by decide) rfl rfl 8 (by decide) rfl wf_X4_52 dX4_ways_30 ?_
          refine sd_aload_n C dX4_ways_33 0 rfl rfl ?_
          refine sd_get C (by decide) rfl rfl 6 (by decide) rfl wf_X4_40 dX4_ways_34 ?_
          refine sd_iload_n C dX4_ways_37 1 rfl rfl ?_
          refine sd_aald12 C (x1.toInt.toNat) ⟨by omega, by omega⟩ dX4_ways_38 ?_
          refine sd_aload_n C dX4_ways_39 0 rfl rfl ?_
          refine sd_get C (by decide) rfl rfl 3 (by decide) rfl wf_X4_22 dX4_ways_40 ?_
          refine sd_aload_n C dX4_ways_43 0 rfl rfl ?_
          refine sd_get C (by decide) rfl rfl 1 (by decide) rfl wf_X4_16 dX4_ways_44 ?_
          refine sd_iload_n C dX4_ways_47 2 rfl rfl ?_
          refine sd_iald C (by decide) rfl (x2.toInt.toNat) ⟨by omega, by omega⟩ dX4_ways_48 ?_
          refine sd_aald9 C (sp_q β x2.toInt) ⟨by omega, by omega⟩ dX4_ways_49 ?_
          refine sd_callVi C (c_X3_tellWays l D ad ca T σ β (sp_q β x2.toInt) (sp_row β (sp_q β x2.toInt)) hW hq x1.toInt.toNat (by omega)) mv_X3_tellWays wm_X4_152 (by decide) rfl rfl (by decide) rfl rfl (Nat.le_of_ble_eq_true rfl) dX4_ways_50 (fun r50 s50 h50 => ?_)
          try dsimp only at h50
          exact hret _ _ _ _ dX4_ways_53 (⟨by
              rw [h50.1]
              unfold an_ways
              rw [if_neg (by omega), if_neg (by omega)], sd_CS_sk h50.2.1 hS, sd_hi_sk h50.2.1⟩)
      · refine sd_sipush C dX4_ways_20 (by decide) (fun k20 ek20 => ?_)
        exact hret _ _ _ _ dX4_ways_23 (⟨by
            unfold an_ways
            repeat' split
            all_goals omega, hS, fun _ _ _ => rfl⟩)

set_option maxRecDepth 20000 in
set_option maxHeartbeats 4000000 in
theorem c_X4_way (l : Launch) (D : va_G) (ad : Nat → Nat) (ca : Nat → ClassId) (T : Nat → Nat) (σ : sd_Mem) (β : sp_B) (hS : sd_CS σ β) (x1 x2 x3 x4 : Int32) : sd_Ci l yX4_way cX4_way 7 4 D ad ca T σ [.ref (ad 0), .int x1, .int x2, .int x3, .int x4] (fun r σ' => r.toInt = an_way β x1.toInt x2.toInt x3.toInt x4.toInt ∧ sd_CS σ' β ∧ sd_hi σ σ') := by
  refine sd_ent_i (own := RX4) (by decide) rfl (Nat.le_of_ble_eq_true rfl) (fun X C hret => ?_)
  show sd_Wd X 7 D ad ca σ [(0, .ref (ad 0)), (1, .int x1), (2, .int x2), (3, .int x3), (4, .int x4)] 0 []
  obtain ⟨hC, hG, hB, hL⟩ := id hS
  have n2 := hC.1.2
  have n3 := hG.1
  refine sd_aload_n C dX4_way_0 0 rfl rfl ?_
  refine sd_iload_n C dX4_way_1 1 rfl rfl ?_
  refine sd_pVz C (c_X4_isFunnel l D ad ca T σ x1) mv_X4_isFunnel wm_X4_145 (by decide) rfl rfl (by decide) rfl rfl (Nat.le_of_ble_eq_true rfl) dX4_way_2 (fun r2 h2 => ?_)
  try dsimp only at h2
  refine sd_if_eq C 15 dX4_way_5 (by decide) (fun c5 => ?_) (fun c5 => ?_)
  · refine sd_sipush C dX4_way_15 (by decide) (fun k15 ek15 => ?_)
    exact hret _ _ _ _ dX4_way_18 (⟨by
        unfold an_way
        repeat' split
        all_goals omega, hS, fun _ _ _ => rfl⟩)
  · refine sd_iload_n C dX4_way_8 2 rfl rfl ?_
    refine sd_pSz C (c_X4_isWho l D ad ca T σ x2) mv_X4_isWho wm_X4_56 (by decide) rfl rfl (Nat.le_of_ble_eq_true rfl) dX4_way_9 (fun r9 h9 => ?_)
    try dsimp only at h9
    refine sd_if_ne C 19 dX4_way_12 (by decide) (fun c12 => ?_) (fun c12 => ?_)
    · have p1 := hC.2.2.1 x2.toInt.toNat (by omega)
      have p2 := hG.2.2.1 x2.toInt.toNat (by omega)
      have hq : sp_q β x2.toInt < 24 := by unfold sp_q; omega
      have hqe : (σ 7 x2.toInt.toNat).toInt = (sp_q β x2.toInt : Int) := by unfold sp_q; omega
      have hLr := hL.1 _ hq
      have hW := hLr.rw hC hG
      have hok := sp_row_ok hG (sp_q β x2.toInt)
      refine sd_aload_n C dX4_way_19 0 rfl rfl ?_
      refine sd_get C (by decide) rfl rfl 3 (by decide) rfl wf_X4_22 dX4_way_20 ?_
      refine sd_aload_n C dX4_way_23 0 rfl rfl ?_
      refine sd_get C (by decide) rfl rfl 1 (by decide) rfl wf_X4_16 dX4_way_24 ?_
      refine sd_iload_n C dX4_way_27 2 rfl rfl ?_
      refine sd_iald C (by decide) rfl (x2.toInt.toNat) ⟨by omega, by omega⟩ dX4_way_28 ?_
      refine sd_aald9 C (sp_q β x2.toInt) ⟨by omega, by omega⟩ dX4_way_29 ?_
      refine sd_astore (lv' := [(5, .ref (ad (16 + sp_q β x2.toInt))), (0, .ref (ad 0)), (1, .int x1), (2, .int x2), (3, .int x3), (4, .int x4)]) C dX4_way_30 (by decide) rfl ?_
      refine sd_aload_n C dX4_way_32 1 rfl rfl ?_
      refine sd_get C (by decide) rfl rfl 8 (by decide) rfl wf_X4_52 dX4_way_33 ?_
      refine sd_aload_n C dX4_way_36 1 rfl rfl ?_
      refine sd_get C (by decide) rfl rfl 6 (by decide) rfl wf_X4_40 dX4_way_37 ?_
      refine sd_iload_n C dX4_way_40 2 rfl rfl ?_
      refine sd_aald12 C (x1.toInt.toNat) ⟨by omega, by omega⟩ dX4_way_41 ?_
      refine sd_aload C dX4_way_42 0 rfl ?_
      refine sd_callVi C (c_X3_tellWays l D ad ca T σ β (sp_q β x2.toInt) (sp_row β (sp_q β x2.toInt)) hW hq x1.toInt.toNat (by omega)) mv_X3_tellWays wm_X4_152 (by decide) rfl rfl (by decide) rfl rfl (Nat.le_of_ble_eq_true rfl) dX4_way_44 (fun r44 s44 h44 => ?_)
      try dsimp only at h44
      obtain ⟨g1, g2, g3⟩ := h44
      have hSs := sd_CS_sk g2 hS
      have hWs := sd_RW_sk g2 hW
      refine sd_istore (lv' := [(6, .int r44), (5, .ref (ad (16 + sp_q β x2.toInt))), (0, .ref (ad 0)), (1, .int x1), (2, .int x2), (3, .int x3), (4, .int x4)]) C dX4_way_47 (by decide) rfl ?_
      refine sd_iload_n C dX4_way_49 5 rfl rfl ?_
      refine sd_if_lt C 59 dX4_way_50 (by decide) (fun c50 => ?_) (fun c50 => ?_)
      · refine sd_sipush C dX4_way_59 (by decide) (fun k59 ek59 => ?_)
        exact hret _ _ _ _ dX4_way_62 (⟨by
            unfold an_way
            repeat' split
            all_goals omega, hSs, sd_hi_sk g2⟩)
      · refine sd_iload_n C dX4_way_53 5 rfl rfl ?_
        refine sd_iload C dX4_way_54 0 rfl ?_
        refine sd_icmp_lt C 63 dX4_way_56 (by decide) (fun c56 => ?_) (fun c56 => ?_)
        · have hfl := fN_len hG x1.toInt.toNat (sp_q β x2.toInt)
          have v1 := g3 x3.toInt.toNat (by omega)
          have v2 := fw_mem (β := β) (f := x1.toInt.toNat) (l := (sp_row β (sp_q β x2.toInt))) (sp_row β (sp_q β x2.toInt)).length (Nat.le_refl _) ((fN β x1.toInt.toNat (sp_row β (sp_q β x2.toInt))).getD x3.toInt.toNat (0, 0)) (fN_getD (by omega))
          refine sd_iload C dX4_way_63 6 rfl ?_
          have hw65 : x4.toInt = 0 ∨ x4.toInt = 1 ∨ (x4.toInt ≠ 0 ∧ x4.toInt ≠ 1) := by omega
          rcases hw65 with w65 | w65 | w65
          · refine sd_lookup C 92 dX4_way_65 (by decide) (off := 27) (by rw [w65]; rfl) (by decide) ?_
            have v3 := hWs.2.2.1.2 ((fN β x1.toInt.toNat (sp_row β (sp_q β x2.toInt))).getD x3.toInt.toNat (0, 0)).1 v2.1
            refine sd_aload C dX4_way_92 1 rfl ?_
            refine sd_get C (by omega) (sd_cell_row _ (by omega)) rfl 1 (by decide) rfl wf_X4_121 dX4_way_94 ?_
            refine sd_aload_n C dX4_way_97 2 rfl rfl ?_
            refine sd_get C (by decide) rfl rfl 8 (by decide) rfl wf_X4_52 dX4_way_98 ?_
            refine sd_get C (by decide) rfl rfl 0 (by decide) rfl wf_X4_156 dX4_way_101 ?_
            refine sd_iload_n C dX4_way_104 5 rfl rfl ?_
            refine sd_iald C (by decide) rfl (x3.toInt.toNat) ⟨by omega, by omega⟩ dX4_way_105 ?_
            refine sd_iald C (by omega) (sd_cell_rowA _ (by omega)) (((fN β x1.toInt.toNat (sp_row β (sp_q β x2.toInt))).getD x3.toInt.toNat (0, 0)).1) ⟨by omega, by omega⟩ dX4_way_106 ?_
            exact hret _ _ _ _ dX4_way_107 (⟨by
                rw [v3]
                unfold an_way
                rw [if_neg (by omega), if_neg (by omega), if_pos (by omega)], hSs, sd_hi_sk g2⟩)
          · refine sd_lookup C 108 dX4_way_65 (by decide) (off := 43) (by rw [w65]; rfl) (by decide) ?_
            have v3 := hWs.2.2.1.2 ((fN β x1.toInt.toNat (sp_row β (sp_q β x2.toInt))).getD x3.toInt.toNat (0, 0)).2 v2.2
            refine sd_aload C dX4_way_108 1 rfl ?_
            refine sd_get C (by omega) (sd_cell_row _ (by omega)) rfl 1 (by decide) rfl wf_X4_121 dX4_way_110 ?_
            refine sd_aload_n C dX4_way_113 2 rfl rfl ?_
            refine sd_get C (by decide) rfl rfl 8 (by decide) rfl wf_X4_52 dX4_way_114 ?_
            refine sd_get C (by decide) rfl rfl 1 (by decide) rfl wf_X4_159 dX4_way_117 ?_
            refine sd_iload_n C dX4_way_120 5 rfl rfl ?_
            refine sd_iald C (by decide) rfl (x3.toInt.toNat) ⟨by omega, by omega⟩ dX4_way_121 ?_
            refine sd_iald C (by omega) (sd_cell_rowA _ (by omega)) (((fN β x1.toInt.toNat (sp_row β (sp_q β x2.toInt))).getD x3.toInt.toNat (0, 0)).2) ⟨by omega, by omega⟩ dX4_way_122 ?_
            exact hret _ _ _ _ dX4_way_123 (⟨by
                rw [v3]
                unfold an_way
                rw [if_neg (by omega), if_neg (by omega), if_neg (by omega), if_pos (by omega)], hSs, sd_hi_sk g2⟩)
          · refine sd_lookup C 124 dX4_way_65 (by decide) (off := 59) (sd_lookD (by intro q hq; simp at hq; rcases hq with rfl | rfl <;> simp <;> omega)) (by decide) ?_
            refine sd_sipush C dX4_way_124 (by decide) (fun k124 ek124 => ?_)
            exact hret _ _ _ _ dX4_way_127 (⟨by
                unfold an_way
                rw [if_neg (by omega), if_neg (by omega), if_neg (by omega), if_neg (by omega)]; omega, hSs, sd_hi_sk g2⟩)
        · refine sd_sipush C dX4_way_59 (by decide) (fun k59 ek59 => ?_)
          exact hret _ _ _ _ dX4_way_62 (⟨by
              unfold an_way
              repeat' split
              all_goals omega, hSs, sd_hi_sk g2⟩)
    · refine sd_sipush C dX4_way_15 (by decide) (fun k15 ek15 => ?_)
      exact hret _ _ _ _ dX4_way_18 (⟨by
          unfold an_way
          repeat' split
          all_goals omega, hS, fun _ _ _ => rfl⟩)

set_option maxRecDepth 20000 in
set_option maxHeartbeats 4000000 in
theorem c_X4_reach (l : Launch) (D : va_G) (ad : Nat → Nat) (ca : Nat → ClassId) (T : Nat → Nat) (σ : sd_Mem) (β : sp_B) (hS : sd_CS σ β) (x1 x2 : Int32) : sd_Ci l yX4_reach cX4_reach 3 4 D ad ca T σ [.ref (ad 0), .int x1, .int x2] (fun r σ' => r.toInt = an_reach β x1.toInt x2.toInt ∧ sd_CS σ' β ∧ sd_hi σ σ') := by
  refine sd_ent_i (own := RX4) (by decide) rfl (Nat.le_of_ble_eq_true rfl) (fun X C hret => ?_)
  show sd_Wd X 3 D ad ca σ [(0, .ref (ad 0)), (1, .int x1), (2, .int x2)] 0 []
  obtain ⟨hC, hG, hB, hL⟩ := id hS
  have n2 := hC.1.2
  have n3 := hG.1
  refine sd_aload_n C dX4_reach_0 0 rfl rfl ?_
  refine sd_iload_n C dX4_reach_1 1 rfl rfl ?_
  refine sd_pVz C (c_X4_isFunnel l D ad ca T σ x1) mv_X4_isFunnel wm_X4_145 (by decide) rfl rfl (by decide) rfl rfl (Nat.le_of_ble_eq_true rfl) dX4_reach_2 (fun r2 h2 => ?_)
  try dsimp only at h2
  refine sd_if_eq C 15 dX4_reach_5 (by decide) (fun c5 => ?_) (fun c5 => ?_)
  · refine sd_sipush C dX4_reach_15 (by decide) (fun k15 ek15 => ?_)
    exact hret _ _ _ _ dX4_reach_18 (⟨by
        unfold an_reach
        repeat' split
        all_goals omega, hS, fun _ _ _ => rfl⟩)
  · refine sd_iload_n C dX4_reach_8 2 rfl rfl ?_
    refine sd_pSz C (c_X4_isWho l D ad ca T σ x2) mv_X4_isWho wm_X4_56 (by decide) rfl rfl (Nat.le_of_ble_eq_true rfl) dX4_reach_9 (fun r9 h9 => ?_)
    try dsimp only at h9
    refine sd_if_ne C 19 dX4_reach_12 (by decide) (fun c12 => ?_) (fun c12 => ?_)
    · have p1 := hC.2.2.1 x2.toInt.toNat (by omega)
      have p2 := hG.2.2.1 x2.toInt.toNat (by omega)
      have hq : sp_q β x2.toInt < 24 := by unfold sp_q; omega
      have hqe : (σ 7 x2.toInt.toNat).toInt = (sp_q β x2.toInt : Int) := by unfold sp_q; omega
      have hLr := hL.1 _ hq
      have hW := hLr.rw hC hG
      have hok := sp_row_ok hG (sp_q β x2.toInt)
      refine sd_aload_n C dX4_reach_19 0 rfl rfl ?_
      refine sd_get C (by decide) rfl rfl 8 (by decide) rfl wf_X4_52 dX4_reach_20 ?_
      refine sd_aload_n C dX4_reach_23 0 rfl rfl ?_
      refine sd_get C (by decide) rfl rfl 6 (by decide) rfl wf_X4_40 dX4_reach_24 ?_
      refine sd_iload_n C dX4_reach_27 1 rfl rfl ?_
      refine sd_aald12 C (x1.toInt.toNat) ⟨by omega, by omega⟩ dX4_reach_28 ?_
      refine sd_aload_n C dX4_reach_29 0 rfl rfl ?_
      refine sd_get C (by decide) rfl rfl 3 (by decide) rfl wf_X4_22 dX4_reach_30 ?_
      refine sd_aload_n C dX4_reach_33 0 rfl rfl ?_
      refine sd_get C (by decide) rfl rfl 1 (by decide) rfl wf_X4_16 dX4_reach_34 ?_
      refine sd_iload_n C dX4_reach_37 2 rfl rfl ?_
      refine sd_iald C (by decide) rfl (x2.toInt.toNat) ⟨by omega, by omega⟩ dX4_reach_38 ?_
      refine sd_aald9 C (sp_q β x2.toInt) ⟨by omega, by omega⟩ dX4_reach_39 ?_
      refine sd_callVi C (c_X3_farthest l D ad ca T σ β (sp_q β x2.toInt) (sp_row β (sp_q β x2.toInt)) hW hq x1.toInt.toNat (by omega)) mv_X3_farthest wm_X4_162 (by decide) rfl rfl (by decide) rfl rfl (Nat.le_of_ble_eq_true rfl) dX4_reach_40 (fun r40 s40 h40 => ?_)
      try dsimp only at h40
      exact hret _ _ _ _ dX4_reach_43 (⟨by
          rw [h40.1]
          unfold an_reach
          rw [if_neg (by omega)], sd_CS_sk h40.2 hS, sd_hi_sk h40.2⟩)
    · refine sd_sipush C dX4_reach_15 (by decide) (fun k15 ek15 => ?_)
      exact hret _ _ _ _ dX4_reach_18 (⟨by
          unfold an_reach
          repeat' split
          all_goals omega, hS, fun _ _ _ => rfl⟩)

set_option maxRecDepth 20000 in
set_option maxHeartbeats 4000000 in
theorem c_X4_reached (l : Launch) (D : va_G) (ad : Nat → Nat) (ca : Nat → ClassId) (T : Nat → Nat) (σ : sd_Mem) (β : sp_B) (hS : sd_CS σ β) (x1 x2 : Int32) : sd_Ci l yX4_reached cX4_reached 5 4 D ad ca T σ [.ref (ad 0), .int x1, .int x2] (fun r σ' => r.toInt = an_reached β x1.toInt x2.toInt ∧ sd_CS σ' β ∧ sd_hi σ σ') := by
  refine sd_ent_i (own := RX4) (by decide) rfl (Nat.le_of_ble_eq_true rfl) (fun X C hret => ?_)
  show sd_Wd X 5 D ad ca σ [(0, .ref (ad 0)), (1, .int x1), (2, .int x2)] 0 []
  obtain ⟨hC, hG, hB, hL⟩ := id hS
  have n2 := hC.1.2
  have n3 := hG.1
  refine sd_aload_n C dX4_reached_0 0 rfl rfl ?_
  refine sd_iload_n C dX4_reached_1 1 rfl rfl ?_
  refine sd_pVz C (c_X4_isFunnel l D ad ca T σ x1) mv_X4_isFunnel wm_X4_145 (by decide) rfl rfl (by decide) rfl rfl (Nat.le_of_ble_eq_true rfl) dX4_reached_2 (fun r2 h2 => ?_)
  try dsimp only at h2
  refine sd_if_ne C 12 dX4_reached_5 (by decide) (fun c5 => ?_) (fun c5 => ?_)
  · refine sd_iload_n C dX4_reached_12 2 rfl rfl ?_
    refine sd_if_lt C 21 dX4_reached_13 (by decide) (fun c13 => ?_) (fun c13 => ?_)
    · refine sd_sipush C dX4_reached_21 (by decide) (fun k21 ek21 => ?_)
      exact hret _ _ _ _ dX4_reached_24 (⟨by
          unfold an_reached
          repeat' split
          all_goals omega, hS, fun _ _ _ => rfl⟩)
    · refine sd_iload_n C dX4_reached_16 2 rfl rfl ?_
      refine sd_iconst C dX4_reached_17 (by decide) (fun k17 ek17 => ?_)
      refine sd_icmp_le C 25 dX4_reached_18 (by decide) (fun c18 => ?_) (fun c18 => ?_)
      · refine sd_iconst C dX4_reached_25 (by decide) (fun k25 ek25 => ?_)
        refine sd_istore_n (lv' := [(3, .int k25), (0, .ref (ad 0)), (1, .int x1), (2, .int x2)]) C dX4_reached_26 rfl (by decide) rfl ?_
        refine sd_iconst C dX4_reached_27 (by decide) (fun k27 ek27 => ?_)
        refine sd_istore (lv' := [(4, .int k27), (3, .int k25), (0, .ref (ad 0)), (1, .int x1), (2, .int x2)]) C dX4_reached_28 (by decide) rfl ?_
        have key30 : ∀ (fu30 : Nat) (y3 : Int32) (y4 : Int32) (p : Nat) (τ : sd_Mem), (y4.toInt = (p : Int)) → (p ≤ 24) → (y3.toInt = sp_sum (fun q => sp_b (fRb β x1.toInt.toNat x2.toInt q)) p) → (sd_sk σ τ) → (0 ≤ x1.toInt ∧ x1.toInt < β 0 1 ∧ 0 ≤ x2.toInt ∧ x2.toInt ≤ 4) → (24 - p < fu30) → sd_Wd X 5 D ad ca τ [(4, .int y4), (3, .int y3), (0, .ref (ad 0)), (1, .int x1), (2, .int x2)] 30 [] := by
          intro fu30
          induction fu30 with
          | zero => intro y3 y4 p τ h4 hp h3 skt hvf hm30; exact absurd hm30 (Nat.not_lt_zero _)
          | succ fu30 ih30 =>
            intro y3 y4 p τ h4 hp h3 skt hvf hm30
            have hSt := sd_CS_sk skt hS
            obtain ⟨hCt, -, -, hLt⟩ := id hSt
            have hr := sp_sum_b (fRb β x1.toInt.toNat x2.toInt) p hp
            refine sd_iload C dX4_reached_30 0 rfl ?_
            refine sd_bipush C dX4_reached_32 (by decide) (fun k32 ek32 => ?_)
            refine sd_icmp_ge C 83 dX4_reached_34 (by decide) (fun c34 => ?_) (fun c34 => ?_)
            · refine sd_iload_n C dX4_reached_83 1 rfl rfl ?_
              exact hret _ _ _ _ dX4_reached_84 (⟨by
                  unfold an_reached
                  rw [if_neg (by omega), if_neg (by omega), show (24 : Nat) = p by omega]; exact h3, hSt, sd_hi_sk skt⟩)
            · have hWp := (hLt.1 p (by omega)).rw hCt hG
              have hzp := hWp.2.2.1.1
              refine sd_aload_n C dX4_reached_37 2 rfl rfl ?_
              refine sd_get C (by decide) rfl rfl 3 (by decide) rfl wf_X4_22 dX4_reached_38 ?_
              refine sd_iload C dX4_reached_41 0 rfl ?_
              refine sd_aald9 C (p) ⟨by omega, by omega⟩ dX4_reached_43 ?_
              refine sd_get C (by omega) (sd_cell_row _ (by omega)) rfl 2 (by decide) rfl wf_X4_106 dX4_reached_44 ?_
              refine sd_if_le C 77 dX4_reached_47 (by decide) (fun c47 => ?_) (fun c47 => ?_)
              · refine sd_iinc C dX4_reached_77 0 rfl (by decide) (by decide) (by omega) (fun zz => [(4, .int zz), (3, .int y3), (0, .ref (ad 0)), (1, .int x1), (2, .int x2)]) (fun _ => rfl) (fun u77 eu77 => ?_)
                refine sd_goto C 30 dX4_reached_80 (by decide) ?_
                exact ih30 y3 u77 (p + 1) τ (by omega) (by omega) (by rw [sp_sum_s (v := 0) (sp_b0 (by unfold fRb; rw [decide_eq_false (by omega)]; rfl))]; omega) skt hvf (by omega)
              · refine sd_aload_n C dX4_reached_50 2 rfl rfl ?_
                refine sd_get C (by decide) rfl rfl 8 (by decide) rfl wf_X4_52 dX4_reached_51 ?_
                refine sd_aload_n C dX4_reached_54 2 rfl rfl ?_
                refine sd_get C (by decide) rfl rfl 6 (by decide) rfl wf_X4_40 dX4_reached_55 ?_
                refine sd_iload_n C dX4_reached_58 3 rfl rfl ?_
                refine sd_aald12 C (x1.toInt.toNat) ⟨by omega, by omega⟩ dX4_reached_59 ?_
                refine sd_aload_n C dX4_reached_60 2 rfl rfl ?_
                refine sd_get C (by decide) rfl rfl 3 (by decide) rfl wf_X4_22 dX4_reached_61 ?_
                refine sd_iload C dX4_reached_64 0 rfl ?_
                refine sd_aald9 C (p) ⟨by omega, by omega⟩ dX4_reached_66 ?_
                refine sd_callVi C (c_X3_farthest l D ad ca T τ β p (sp_row β p) hWp (by omega) x1.toInt.toNat (by omega)) mv_X3_farthest wm_X4_162 (by decide) rfl rfl (by decide) rfl rfl (Nat.le_of_ble_eq_true rfl) dX4_reached_67 (fun r67 s67 h67 => ?_)
                try dsimp only at h67
                refine sd_iload_n C dX4_reached_70 4 rfl rfl ?_
                refine sd_icmp_lt C 77 dX4_reached_71 (by decide) (fun c71 => ?_) (fun c71 => ?_)
                · refine sd_iinc C dX4_reached_77 0 rfl (by decide) (by decide) (by omega) (fun zz => [(4, .int zz), (3, .int y3), (0, .ref (ad 0)), (1, .int x1), (2, .int x2)]) (fun _ => rfl) (fun u77 eu77 => ?_)
                  refine sd_goto C 30 dX4_reached_80 (by decide) ?_
                  exact ih30 y3 u77 (p + 1) s67 (by omega) (by omega) (by rw [sp_sum_s (v := 0) (sp_b0 (by unfold fRb; rw [decide_eq_false (p := x2.toInt ≤ _) (by omega)]; simp))]; omega) (skt.tr h67.2) hvf (by omega)
                · refine sd_iinc C dX4_reached_74 1 rfl (by decide) (by decide) (by omega) (fun zz => [(3, .int zz), (4, .int y4), (0, .ref (ad 0)), (1, .int x1), (2, .int x2)]) (fun _ => rfl) (fun u74 eu74 => ?_)
                  refine sd_iinc C dX4_reached_77 1 rfl (by decide) (by decide) (by omega) (fun zz => [(4, .int zz), (3, .int u74), (0, .ref (ad 0)), (1, .int x1), (2, .int x2)]) (fun _ => rfl) (fun u77 eu77 => ?_)
                  refine sd_goto C 30 dX4_reached_80 (by decide) ?_
                  exact ih30 u74 u77 (p + 1) s67 (by omega) (by omega) (by rw [sp_sum_s (v := 1) (sp_b1 (by unfold fRb; rw [decide_eq_true (by omega), decide_eq_true (by omega)]; rfl))]; omega) (skt.tr h67.2) hvf (by omega)
        exact key30 _ k25 k27 0 σ (by omega) (by omega) (by rw [sp_sum]; exact ek25) (sd_sk.rf σ) (by omega) (Nat.lt_succ_self _)
      · refine sd_sipush C dX4_reached_21 (by decide) (fun k21 ek21 => ?_)
        exact hret _ _ _ _ dX4_reached_24 (⟨by
            unfold an_reached
            repeat' split
            all_goals omega, hS, fun _ _ _ => rfl⟩)
  · refine sd_sipush C dX4_reached_8 (by decide) (fun k8 ek8 => ?_)
    exact hret _ _ _ _ dX4_reached_11 (⟨by
        unfold an_reached
        repeat' split
        all_goals omega, hS, fun _ _ _ => rfl⟩)

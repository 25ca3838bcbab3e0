set_option maxRecDepth 20000 in
set_option maxHeartbeats 4000000 in
theorem c_X4_isCut (l : Launch) (D : va_G) (ad : Nat → Nat) (ca : Nat → ClassId) (T : Nat → Nat) (σ : sd_Mem) (β : sp_B) (a b : Nat) (hC : sd_CR σ β) (hG : sd_RG β) (x y : Int32) (hx : x.toInt = (a : Int)) (hy : y.toInt = (b : Int)) (ha : a < 120) (hb : b < 120) : sd_Cz l yX4_isCut cX4_isCut 5 0 D ad ca T σ [.ref (ad 0), .int x, .int y] (fun r σ' => σ' = σ ∧ ((r.toInt = 1 ∧ sp_cut β a b = true) ∨ (r.toInt = 0 ∧ sp_cut β a b = false))) := by
  refine sd_ent_z (own := RX4) (by decide) rfl (Nat.le_of_ble_eq_true rfl) (fun X C hret => ?_)
  show sd_Wd X 5 D ad ca σ [(0, .ref (ad 0)), (1, .int x), (2, .int y)] 0 []
  have a1 := hC.2.1 a ha
  have b1 := hC.2.1 b hb
  have a2 := hG.2.1 a ha
  have b2 := hG.2.1 b hb
  have u0 := hC.2.2.2.1 0 (by decide)
  have u1 := hC.2.2.2.1 1 (by decide)
  have u2 := hC.2.2.2.1 2 (by decide)
  refine sd_aload_n C dX4_isCut_0 0 rfl rfl ?_
  refine sd_get C (by decide) rfl rfl 0 (by decide) rfl wf_X4_10 dX4_isCut_1 ?_
  refine sd_get C (by decide) rfl rfl 0 (by decide) rfl wf_X4_97 dX4_isCut_4 ?_
  refine sd_iload_n C dX4_isCut_7 1 rfl rfl ?_
  refine sd_iald C (by decide) rfl (a) ⟨by omega, by omega⟩ dX4_isCut_8 ?_
  refine sd_istore_n (lv' := [(3, .int (σ 2 (a))), (0, .ref (ad 0)), (1, .int x), (2, .int y)]) C dX4_isCut_9 rfl (by decide) rfl ?_
  refine sd_aload_n C dX4_isCut_10 1 rfl rfl ?_
  refine sd_get C (by decide) rfl rfl 0 (by decide) rfl wf_X4_10 dX4_isCut_11 ?_
  refine sd_get C (by decide) rfl rfl 0 (by decide) rfl wf_X4_97 dX4_isCut_14 ?_
  refine sd_iload_n C dX4_isCut_17 3 rfl rfl ?_
  refine sd_iald C (by decide) rfl (b) ⟨by omega, by omega⟩ dX4_isCut_18 ?_
  refine sd_istore (lv' := [(4, .int (σ 2 (b))), (3, .int (σ 2 (a))), (0, .ref (ad 0)), (1, .int x), (2, .int y)]) C dX4_isCut_19 (by decide) rfl ?_
  refine sd_iload C dX4_isCut_21 0 rfl ?_
  refine sd_iload_n C dX4_isCut_23 1 rfl rfl ?_
  refine sd_isub C dX4_isCut_24 (by omega) (fun z24 ez24 => ?_)
  refine sd_aload_n C dX4_isCut_25 2 rfl rfl ?_
  refine sd_get C (by decide) rfl rfl 2 (by decide) rfl wf_X4_29 dX4_isCut_26 ?_
  refine sd_iconst C dX4_isCut_29 (by decide) (fun k29 ek29 => ?_)
  refine sd_iald C (by decide) rfl (0) ⟨by omega, by omega⟩ dX4_isCut_30 ?_
  refine sd_icmp_gt C 76 dX4_isCut_31 (by decide) (fun c31 => ?_) (fun c31 => ?_)
  · refine sd_iconst C dX4_isCut_76 (by decide) (fun k76 ek76 => ?_)
    refine sd_goto C 81 dX4_isCut_77 (by decide) ?_
    exact hret _ _ _ _ dX4_isCut_81 (by omega) (⟨rfl, Or.inl ⟨by omega, sp_cut_t (by omega)⟩⟩)
  · refine sd_aload_n C dX4_isCut_34 2 rfl rfl ?_
    refine sd_get C (by decide) rfl rfl 2 (by decide) rfl wf_X4_29 dX4_isCut_35 ?_
    refine sd_iconst C dX4_isCut_38 (by decide) (fun k38 ek38 => ?_)
    refine sd_iald C (by decide) rfl (1) ⟨by omega, by omega⟩ dX4_isCut_39 ?_
    refine sd_iconst C dX4_isCut_40 (by decide) (fun k40 ek40 => ?_)
    refine sd_icmp_ne C 58 dX4_isCut_41 (by decide) (fun c41 => ?_) (fun c41 => ?_)
    · refine sd_aload_n C dX4_isCut_58 2 rfl rfl ?_
      refine sd_get C (by decide) rfl rfl 0 (by decide) rfl wf_X4_10 dX4_isCut_59 ?_
      refine sd_get C (by decide) rfl rfl 2 (by decide) rfl wf_X4_103 dX4_isCut_62 ?_
      refine sd_iload_n C dX4_isCut_65 3 rfl rfl ?_
      refine sd_iald C (by decide) rfl (a) ⟨by omega, by omega⟩ dX4_isCut_66 ?_
      refine sd_aload_n C dX4_isCut_67 2 rfl rfl ?_
      refine sd_get C (by decide) rfl rfl 2 (by decide) rfl wf_X4_29 dX4_isCut_68 ?_
      refine sd_iconst C dX4_isCut_71 (by decide) (fun k71 ek71 => ?_)
      refine sd_iald C (by decide) rfl (2) ⟨by omega, by omega⟩ dX4_isCut_72 ?_
      refine sd_icmp_ne C 80 dX4_isCut_73 (by decide) (fun c73 => ?_) (fun c73 => ?_)
      · refine sd_iconst C dX4_isCut_80 (by decide) (fun k80 ek80 => ?_)
        exact hret _ _ _ _ dX4_isCut_81 (by omega) (⟨rfl, Or.inr ⟨by omega, sp_cut_f (by omega)⟩⟩)
      · refine sd_iconst C dX4_isCut_76 (by decide) (fun k76 ek76 => ?_)
        refine sd_goto C 81 dX4_isCut_77 (by decide) ?_
        exact hret _ _ _ _ dX4_isCut_81 (by omega) (⟨rfl, Or.inl ⟨by omega, sp_cut_t (by omega)⟩⟩)
    · refine sd_iload C dX4_isCut_44 0 rfl ?_
      refine sd_sipush C dX4_isCut_46 (by decide) (fun k46 ek46 => ?_)
      refine sd_idiv C 1440 (by decide) dX4_isCut_49 ek46 (by omega) (fun z49 ez49 => ?_)
      refine sd_iload_n C dX4_isCut_50 1 rfl rfl ?_
      refine sd_sipush C dX4_isCut_51 (by decide) (fun k51 ek51 => ?_)
      refine sd_idiv C 1440 (by decide) dX4_isCut_54 ek51 (by omega) (fun z54 ez54 => ?_)
      refine sd_icmp_ne C 76 dX4_isCut_55 (by decide) (fun c55 => ?_) (fun c55 => ?_)
      · refine sd_iconst C dX4_isCut_76 (by decide) (fun k76 ek76 => ?_)
        refine sd_goto C 81 dX4_isCut_77 (by decide) ?_
        exact hret _ _ _ _ dX4_isCut_81 (by omega) (⟨rfl, Or.inl ⟨by omega, sp_cut_t (by omega)⟩⟩)
      · refine sd_aload_n C dX4_isCut_58 2 rfl rfl ?_
        refine sd_get C (by decide) rfl rfl 0 (by decide) rfl wf_X4_10 dX4_isCut_59 ?_
        refine sd_get C (by decide) rfl rfl 2 (by decide) rfl wf_X4_103 dX4_isCut_62 ?_
        refine sd_iload_n C dX4_isCut_65 3 rfl rfl ?_
        refine sd_iald C (by decide) rfl (a) ⟨by omega, by omega⟩ dX4_isCut_66 ?_
        refine sd_aload_n C dX4_isCut_67 2 rfl rfl ?_
        refine sd_get C (by decide) rfl rfl 2 (by decide) rfl wf_X4_29 dX4_isCut_68 ?_
        refine sd_iconst C dX4_isCut_71 (by decide) (fun k71 ek71 => ?_)
        refine sd_iald C (by decide) rfl (2) ⟨by omega, by omega⟩ dX4_isCut_72 ?_
        refine sd_icmp_ne C 80 dX4_isCut_73 (by decide) (fun c73 => ?_) (fun c73 => ?_)
        · refine sd_iconst C dX4_isCut_80 (by decide) (fun k80 ek80 => ?_)
          exact hret _ _ _ _ dX4_isCut_81 (by omega) (⟨rfl, Or.inr ⟨by omega, sp_cut_f (by omega)⟩⟩)
        · refine sd_iconst C dX4_isCut_76 (by decide) (fun k76 ek76 => ?_)
          refine sd_goto C 81 dX4_isCut_77 (by decide) ?_
          exact hret _ _ _ _ dX4_isCut_81 (by omega) (⟨rfl, Or.inl ⟨by omega, sp_cut_t (by omega)⟩⟩)

set_option maxRecDepth 20000 in
set_option maxHeartbeats 4000000 in
theorem c_X4_cutSittings (l : Launch) (D : va_G) (ad : Nat → Nat) (ca : Nat → ClassId) (T : Nat → Nat) (σ : sd_Mem) (β : sp_B) (q : Nat) (l9 : List Nat) (hW : sd_RW σ β q l9) (hN : l9.Nodup) (hq : q < 24) : sd_Cv l yX4_cutSittings cX4_cutSittings 5 1 D ad ca T σ [.ref (ad 0), .ref (ad (16 + q))] (fun σ' => (∀ i k, i ≠ 10 → i ≠ 11 → ¬ (i = 16 + q ∧ k = 5) → σ' i k = σ i k) ∧ (∀ c, c ∉ l9 → σ' 10 c = σ 10 c ∧ σ' 11 c = σ 11 c) ∧ (∀ j, j < l9.length → (σ' 10 (l9.getD j 0)).toInt = (j : Int) ∧ (σ' 11 (l9.getD j 0)).toInt = (sp_ns β l9 (j + 1) : Int) - 1) ∧ (σ' (16 + q) 5).toInt = (sp_ns β l9 l9.length : Int)) := by
  refine sd_ent_v (own := RX4) (by decide) rfl (Nat.le_of_ble_eq_true rfl) (fun X C hret => ?_)
  show sd_Wd X 5 D ad ca σ [(0, .ref (ad 0)), (1, .ref (ad (16 + q)))] 0 []
  have hz := hW.2.2.1.1
  have hl9 := hW.2.2.2.1
  refine sd_iconst C dX4_cutSittings_0 (by decide) (fun k0 ek0 => ?_)
  refine sd_istore_n (lv' := [(2, .int k0), (0, .ref (ad 0)), (1, .ref (ad (16 + q)))]) C dX4_cutSittings_1 rfl (by decide) rfl ?_
  refine sd_iconst C dX4_cutSittings_2 (by decide) (fun k2 ek2 => ?_)
  refine sd_istore_n (lv' := [(3, .int k2), (2, .int k0), (0, .ref (ad 0)), (1, .ref (ad (16 + q)))]) C dX4_cutSittings_3 rfl (by decide) rfl ?_
  have key4 : ∀ (fu4 : Nat) (x2 : Int32) (x3 : Int32) (j : Nat) (τ : sd_Mem), (x3.toInt = (j : Int)) → (x2.toInt = (sp_ns β l9 j : Int)) → (j ≤ l9.length) → (∀ i k, i ≠ 10 → i ≠ 11 → τ i k = σ i k) → (∀ c, c ∉ l9 → τ 10 c = σ 10 c ∧ τ 11 c = σ 11 c) → (∀ i, i < j → (τ 10 (l9.getD i 0)).toInt = (i : Int) ∧ (τ 11 (l9.getD i 0)).toInt = (sp_ns β l9 (i + 1) : Int) - 1) → (l9.length - j < fu4) → sd_Wd X 5 D ad ca τ [(3, .int x3), (2, .int x2), (0, .ref (ad 0)), (1, .ref (ad (16 + q)))] 4 [] := by
    intro fu4
    induction fu4 with
    | zero => intro x2 x3 j τ h3 h2 hj fr no ys hm4; exact absurd hm4 (Nat.not_lt_zero _)
    | succ fu4 ih4 =>
      intro x2 x3 j τ h3 h2 hj fr no ys hm4
      have hzt : (τ (16 + q) 2).toInt = (l9.length : Int) := by rw [fr _ _ (by omega) (by omega)]; exact hz
      have hWt : sd_RW τ β q l9 := ⟨sd_CR_fr (fun a k ha => fr a k (fun e => ha (by unfold sd_lay; omega)) (fun e => ha (by unfold sd_lay; omega))) hW.1, hW.2.1, sd_RV_cong hW.2.2.1 (fr _ _ (by omega) (by omega)) (fun k => fr _ _ (by omega) (by omega)), hW.2.2.2⟩
      have hns := sp_ns_le β l9 j
      have key44 : ∀ (y2 : Int32), (j < l9.length) → (y2.toInt = (sp_ns β l9 (j + 1) : Int)) → sd_Wd X 5 D ad ca τ [(2, .int y2), (4, .int (τ (40 + q) j)), (3, .int x3), (0, .ref (ad 0)), (1, .ref (ad (16 + q)))] 44 [] := by
          intro y2 hjl hy2
          have t1 := hWt.at (j := j) hjl
          have hn1 := sp_ns_le β l9 (j + 1)
          have hn2 := sp_ns_pos β l9 j
          refine sd_aload_n C dX4_cutSittings_44 3 rfl rfl ?_
          refine sd_get C (by decide) rfl rfl 4 (by decide) rfl wf_X4_32 dX4_cutSittings_45 ?_
          refine sd_iload C dX4_cutSittings_48 1 rfl ?_
          refine sd_iload_n C dX4_cutSittings_50 2 rfl rfl ?_
          refine sd_iast C (by decide) (fun _ => rfl) ((τ (40 + q) j).toInt.toNat) ⟨by omega, by omega⟩ dX4_cutSittings_51 (fun s51 es51 => ?_)
          refine sd_aload_n C dX4_cutSittings_52 3 rfl rfl ?_
          refine sd_get C (by decide) rfl rfl 5 (by decide) rfl wf_X4_35 dX4_cutSittings_53 ?_
          refine sd_iload C dX4_cutSittings_56 1 rfl ?_
          refine sd_iload_n C dX4_cutSittings_58 0 rfl rfl ?_
          refine sd_iconst C dX4_cutSittings_59 (by decide) (fun k59 ek59 => ?_)
          refine sd_isub C dX4_cutSittings_60 (by omega) (fun z60 ez60 => ?_)
          refine sd_iast C (by decide) (fun _ => rfl) ((τ (40 + q) j).toInt.toNat) ⟨by omega, by omega⟩ dX4_cutSittings_61 (fun s61 es61 => ?_)
          refine sd_iinc C dX4_cutSittings_62 2 rfl (by decide) (by decide) (by omega) (fun zz => [(3, .int zz), (2, .int y2), (4, .int (τ (40 + q) j)), (0, .ref (ad 0)), (1, .ref (ad (16 + q)))]) (fun _ => rfl) (fun u62 eu62 => ?_)
          refine sd_goto C 4 dX4_cutSittings_65 (by decide) ?_
          exact sd_lv (ih4 y2 u62 (j + 1) s61 (by omega) (by omega) (by omega) (fun i k h1 h2 => by rw [es61, sd_st_ne h2, es51, sd_st_ne h1]; exact fr i k h1 h2) (fun c hc => by
                have e : c ≠ l9.getD j 0 := fun e => hc (by rw [e]; exact sp_getD_mem hjl)
                rw [es61, sd_st_nk (by rw [t1.1]; exact e), sd_st_nk (by rw [t1.1]; exact e), es51, sd_st_nk (by rw [t1.1]; exact e), sd_st_nk (by rw [t1.1]; exact e)]
                exact no c hc) (fun i h => by
                by_cases e : i = j
                · subst e
                  rw [es61, ← t1.1, sd_st_at, sd_st_ne (by decide), es51, sd_st_at]
                  exact ⟨h3, by omega⟩
                · have e2 : l9.getD i 0 ≠ l9.getD j 0 := fun q9 => by
                    have q1 := sp_pl_at hN (j := i) (by omega)
                    have q2 := sp_pl_at hN (j := j) hjl
                    rw [q9] at q1
                    omega
                  rw [es61, sd_st_nk (by rw [t1.1]; exact e2), sd_st_nk (by rw [t1.1]; exact e2), es51, sd_st_nk (by rw [t1.1]; exact e2), sd_st_nk (by rw [t1.1]; exact e2)]
                  exact ys i (by omega)) (by omega)) [0, 1, 3, 4] rfl
      refine sd_iload_n C dX4_cutSittings_4 0 rfl rfl ?_
      refine sd_aload_n C dX4_cutSittings_5 3 rfl rfl ?_
      refine sd_get C (by omega) (sd_cell_row _ (by omega)) rfl 2 (by decide) rfl wf_X4_106 dX4_cutSittings_6 ?_
      refine sd_icmp_ge C 68 dX4_cutSittings_9 (by decide) (fun c9 => ?_) (fun c9 => ?_)
      · refine sd_aload_n C dX4_cutSittings_68 3 rfl rfl ?_
        refine sd_iload_n C dX4_cutSittings_69 1 rfl rfl ?_
        refine sd_put C (ty := .int) (by omega) (sd_cell_row _ (by omega)) rfl 5 (by decide) rfl (by decide +kernel) rfl rfl (Nat.le_of_ble_eq_true rfl) (fun _ => by rw [sd_cell_row _ (by omega)]; rfl) wf_X4_113 dX4_cutSittings_70 (fun s70 es70 => ?_)
        exact hret _ _ _ dX4_cutSittings_73 (by
            have e : l9.length = j := by omega
            refine ⟨fun i k h1 h2 h3 => ?_, fun c hc => ?_, fun i hi => ?_, ?_⟩
            · by_cases e16 : i = 16 + q
              · subst e16
                rw [es70, sd_st_nk (fun e5 => h3 ⟨rfl, e5⟩)]; exact fr _ k h1 h2
              · rw [es70, sd_st_ne e16]; exact fr i k h1 h2
            · rw [es70, sd_st_ne (by omega), sd_st_ne (by omega)]; exact no c hc
            · rw [es70, sd_st_ne (by omega), sd_st_ne (by omega)]; exact ys i (by omega)
            · rw [es70, sd_st_at, e]; exact h2)
      · have t1 := hWt.at (j := j) (by omega)
        refine sd_aload_n C dX4_cutSittings_12 3 rfl rfl ?_
        refine sd_get C (by omega) (sd_cell_row _ (by omega)) rfl 1 (by decide) rfl wf_X4_121 dX4_cutSittings_13 ?_
        refine sd_iload_n C dX4_cutSittings_16 0 rfl rfl ?_
        refine sd_iald C (by omega) (sd_cell_rowA _ (by omega)) (j) ⟨by omega, by omega⟩ dX4_cutSittings_17 ?_
        refine sd_istore (lv' := [(4, .int (τ (40 + q) (j))), (3, .int x3), (2, .int x2), (0, .ref (ad 0)), (1, .ref (ad (16 + q)))]) C dX4_cutSittings_18 (by decide) rfl ?_
        refine sd_iload_n C dX4_cutSittings_20 1 rfl rfl ?_
        refine sd_if_eq C 41 dX4_cutSittings_21 (by decide) (fun c21 => ?_) (fun c21 => ?_)
        · refine sd_iinc C dX4_cutSittings_41 2 rfl (by decide) (by decide) (by omega) (fun zz => [(2, .int zz), (4, .int (τ (40 + q) (j))), (3, .int x3), (0, .ref (ad 0)), (1, .ref (ad (16 + q)))]) (fun _ => rfl) (fun u41 eu41 => ?_)
          exact key44 u41 (by omega) (by rw [sp_ns_s (by first | (left; omega) | (right; rcases h35 with h | h; exact h.2; exact absurd h.1 (by omega)))]; omega)
        · refine sd_aload_n C dX4_cutSittings_24 3 rfl rfl ?_
          have t2 := hWt.at (j := j - 1) (by omega)
          refine sd_aload_n C dX4_cutSittings_25 4 rfl rfl ?_
          refine sd_get C (by omega) (sd_cell_row _ (by omega)) rfl 1 (by decide) rfl wf_X4_121 dX4_cutSittings_26 ?_
          refine sd_iload_n C dX4_cutSittings_29 1 rfl rfl ?_
          refine sd_iconst C dX4_cutSittings_30 (by decide) (fun k30 ek30 => ?_)
          refine sd_isub C dX4_cutSittings_31 (by omega) (fun z31 ez31 => ?_)
          refine sd_iald C (by omega) (sd_cell_rowA _ (by omega)) ((j - 1)) ⟨by omega, by omega⟩ dX4_cutSittings_32 ?_
          refine sd_iload C dX4_cutSittings_33 0 rfl ?_
          refine sd_pVz C (c_X4_isCut l D ad ca T τ β (l9.getD (j - 1) 0) (l9.getD j 0) hWt.1 hWt.2.1 (τ (40 + q) (j - 1)) (τ (40 + q) j) (by omega) (by omega) (by omega) (by omega)) mv_X4_isCut wm_X4_193 (by decide) rfl rfl (by decide) rfl rfl (Nat.le_of_ble_eq_true rfl) dX4_cutSittings_35 (fun r35 h35 => ?_)
          try dsimp only at h35
          refine sd_if_eq C 44 dX4_cutSittings_38 (by decide) (fun c38 => ?_) (fun c38 => ?_)
          · exact sd_lv (key44 x2 (by omega) (by rw [sp_ns_k (by omega) (by rcases h35 with h | h; exact absurd h.1 (by omega); exact h.2)]; omega)) [2, 0, 1, 3, 4] rfl
          · refine sd_iinc C dX4_cutSittings_41 2 rfl (by decide) (by decide) (by omega) (fun zz => [(2, .int zz), (4, .int (τ (40 + q) (j))), (3, .int x3), (0, .ref (ad 0)), (1, .ref (ad (16 + q)))]) (fun _ => rfl) (fun u41 eu41 => ?_)
            exact key44 u41 (by omega) (by rw [sp_ns_s (by first | (left; omega) | (right; rcases h35 with h | h; exact h.2; exact absurd h.1 (by omega)))]; omega)
  exact key4 _ k0 k2 0 σ (by omega) (by rw [sp_ns]; omega) (by omega) (fun _ _ _ _ => rfl) (fun _ _ => ⟨rfl, rfl⟩) (fun i h => by omega) (Nat.lt_succ_self _)

set_option maxRecDepth 20000 in
set_option maxHeartbeats 4000000 in
theorem c_X4_layRows (l : Launch) (D : va_G) (ad : Nat → Nat) (ca : Nat → ClassId) (T : Nat → Nat) (σ : sd_Mem) (β : sp_B) (hC : sd_CR σ β) (hG : sd_RG β) (hB : sd_BT σ β) : sd_Cv l yX4_layRows cX4_layRows 3 4 D ad ca T σ [.ref (ad 0)] (fun σ' => (∀ a k, ¬ sd_lay a → σ' a k = σ a k) ∧ sd_LD σ' β) := by
  refine sd_ent_v (own := RX4) (by decide) rfl (Nat.le_of_ble_eq_true rfl) (fun X C hret => ?_)
  show sd_Wd X 3 D ad ca σ [(0, .ref (ad 0))] 0 []
  have hN := sp_n_le hG
  have hlen := sp_srt_len (t := β 1) (sp_n β)
  refine sd_iconst C dX4_layRows_0 (by decide) (fun k0 ek0 => ?_)
  refine sd_istore_n (lv' := [(1, .int k0), (0, .ref (ad 0))]) C dX4_layRows_1 rfl (by decide) rfl ?_
  have key2 : ∀ (fu2 : Nat) (p1 : Int32) (p : Nat) (τ : sd_Mem), (p1.toInt = (p : Int)) → (p ≤ 24) → (sd_l1 σ τ p) → (24 - p < fu2) → sd_Wd X 3 D ad ca τ [(1, .int p1), (0, .ref (ad 0))] 2 [] := by
    intro fu2
    induction fu2 with
    | zero => intro p1 p τ hp1 hp H hm2; exact absurd hm2 (Nat.not_lt_zero _)
    | succ fu2 ih2 =>
      intro p1 p τ hp1 hp H hm2
      refine sd_iload_n C dX4_layRows_2 0 rfl rfl ?_
      refine sd_bipush C dX4_layRows_3 (by decide) (fun k3 ek3 => ?_)
      refine sd_icmp_ge C 23 dX4_layRows_5 (by decide) (fun c5 => ?_) (fun c5 => ?_)
      · refine sd_iconst C dX4_layRows_23 (by decide) (fun k23 ek23 => ?_)
        refine sd_istore_n (lv' := [(1, .int k23), (0, .ref (ad 0))]) C dX4_layRows_24 rfl (by decide) rfl ?_
        have key25 : ∀ (fu25 : Nat) (p2 : Int32) (i : Nat) (τ : sd_Mem), (p2.toInt = (i : Int)) → (i ≤ sp_n β) → (sd_l2 σ β τ i) → (sp_n β - i < fu25) → sd_Wd X 3 D ad ca τ [(1, .int p2), (0, .ref (ad 0))] 25 [] := by
          intro fu25
          induction fu25 with
          | zero => intro p2 i τ hp2 hi H2 hm25; exact absurd hm25 (Nat.not_lt_zero _)
          | succ fu25 ih25 =>
            intro p2 i τ hp2 hi H2 hm25
            have hCt := sd_CR_fr H2.1 hC
            refine sd_iload_n C dX4_layRows_25 0 rfl rfl ?_
            refine sd_aload_n C dX4_layRows_26 1 rfl rfl ?_
            refine sd_get C (by decide) rfl rfl 0 (by decide) rfl wf_X4_10 dX4_layRows_27 ?_
            refine sd_get C (by decide) rfl rfl 5 (by decide) rfl wf_X4_123 dX4_layRows_30 ?_
            have hsz : (τ 1 5).toInt = β 0 0 := hCt.1.1
            refine sd_icmp_ge C 89 dX4_layRows_33 (by decide) (fun c33 => ?_) (fun c33 => ?_)
            · refine sd_iconst C dX4_layRows_89 (by decide) (fun k89 ek89 => ?_)
              refine sd_istore_n (lv' := [(1, .int k89), (0, .ref (ad 0))]) C dX4_layRows_90 rfl (by decide) rfl ?_
              have key91 : ∀ (fu91 : Nat) (p3 : Int32) (p : Nat) (τ : sd_Mem), (p3.toInt = (p : Int)) → (p ≤ 24) → (sd_l3 σ β τ p) → (24 - p < fu91) → sd_Wd X 3 D ad ca τ [(1, .int p3), (0, .ref (ad 0))] 91 [] := by
                intro fu91
                induction fu91 with
                | zero => intro p3 p τ hp3 hp H3 hm91; exact absurd hm91 (Nat.not_lt_zero _)
                | succ fu91 ih91 =>
                  intro p3 p τ hp3 hp H3 hm91
                  have hCt := sd_CR_fr H3.1 hC
                  have u3 := hCt.2.2.2.1 3 (by decide)
                  have u4 := hCt.2.2.2.1 4 (by decide)
                  refine sd_iload_n C dX4_layRows_91 0 rfl rfl ?_
                  refine sd_bipush C dX4_layRows_92 (by decide) (fun k92 ek92 => ?_)
                  refine sd_icmp_ge C 134 dX4_layRows_94 (by decide) (fun c94 => ?_) (fun c94 => ?_)
                  · exact hret _ _ _ dX4_layRows_134 (⟨H3.1, sd_l3_end hG (by rw [show (24 : Nat) = p by omega]; exact H3)⟩)
                  · refine sd_aload_n C dX4_layRows_97 1 rfl rfl ?_
                    refine sd_get C (by decide) rfl rfl 3 (by decide) rfl wf_X4_22 dX4_layRows_98 ?_
                    refine sd_iload_n C dX4_layRows_101 0 rfl rfl ?_
                    refine sd_aald9 C (p) ⟨by omega, by omega⟩ dX4_layRows_102 ?_
                    refine sd_aload_n C dX4_layRows_103 1 rfl rfl ?_
                    refine sd_get C (by decide) rfl rfl 2 (by decide) rfl wf_X4_29 dX4_layRows_104 ?_
                    refine sd_iconst C dX4_layRows_107 (by decide) (fun k107 ek107 => ?_)
                    refine sd_iald C (by decide) rfl (3) ⟨by omega, by omega⟩ dX4_layRows_108 ?_
                    refine sd_aload_n C dX4_layRows_109 1 rfl rfl ?_
                    refine sd_get C (by decide) rfl rfl 2 (by decide) rfl wf_X4_29 dX4_layRows_110 ?_
                    refine sd_iconst C dX4_layRows_113 (by decide) (fun k113 ek113 => ?_)
                    refine sd_iald C (by decide) rfl (4) ⟨by omega, by omega⟩ dX4_layRows_114 ?_
                    have hWr : sd_RW τ β p (sp_raw β p) := ⟨hCt, hG, (H3.2.2.1 p (Nat.le_refl p) (by omega)).1, sp_raw_ok hG p⟩
                    refine sd_callVv C (c_X2_dropIfQuick l D ad ca T τ β p (sp_raw β p) hWr (by omega) (τ 8 3) (τ 8 4) (by omega) (by omega)) mv_X2_dropIfQuick wm_X4_185 (by omega) (sd_cell_row _ (by omega)) rfl (by decide) rfl rfl (Nat.le_of_ble_eq_true rfl) dX4_layRows_115 (fun s115 h115 => ?_)
                    try dsimp only at h115
                    refine sd_aload_n C dX4_layRows_118 1 rfl rfl ?_
                    refine sd_aload_n C dX4_layRows_119 1 rfl rfl ?_
                    refine sd_get C (by decide) rfl rfl 3 (by decide) rfl wf_X4_22 dX4_layRows_120 ?_
                    refine sd_iload_n C dX4_layRows_123 0 rfl rfl ?_
                    refine sd_aald9 C (p) ⟨by omega, by omega⟩ dX4_layRows_124 ?_
                    have hWq : sd_RW s115 β p (sp_row β p) := by
                      refine ⟨sd_CR_fr (fun a k ha => h115.1 a k (fun e => ha (by unfold sd_lay; omega))) hCt, hG, ⟨h115.2.1, fun j hj => ?_⟩, sp_row_ok hG p⟩
                      rw [h115.1 _ _ (by omega)]
                      unfold sp_row at hj ⊢
                      split at hj
                      · simp at hj
                      · rename_i hqk
                        rw [if_neg hqk]
                        exact hWr.2.2.1.2 j hj
                    refine sd_callVv C (c_X4_cutSittings l D ad ca T s115 β p (sp_row β p) hWq (sp_row_nodup β p) (by omega)) mv_X4_cutSittings wm_X4_189 (by decide) rfl rfl (by decide) rfl rfl (Nat.le_of_ble_eq_true rfl) dX4_layRows_125 (fun s125 h125 => ?_)
                    try dsimp only at h125
                    refine sd_iinc C dX4_layRows_128 0 rfl (by decide) (by decide) (by omega) (fun zz => [(1, .int zz), (0, .ref (ad 0))]) (fun _ => rfl) (fun u128 eu128 => ?_)
                    refine sd_goto C 91 dX4_layRows_131 (by decide) ?_
                    exact ih91 u128 (p + 1) s125 (by omega) (by omega) (sd_l3_step hG (by omega) H3 h115.1 h115.2.1 h115.2.2.1 h115.2.2.2.1 h125.1 h125.2.1 h125.2.2.1 h125.2.2.2) (by omega)
              exact key91 _ k89 0 τ (by omega) (by omega) (sd_l3_0 hG (by rw [show sp_n β = i by omega]; exact H2)) (Nat.lt_succ_self _)
            · refine sd_aload_n C dX4_layRows_36 1 rfl rfl ?_
              refine sd_get C (by decide) rfl rfl 0 (by decide) rfl wf_X4_10 dX4_layRows_37 ?_
              refine sd_get C (by decide) rfl rfl 4 (by decide) rfl wf_X4_178 dX4_layRows_40 ?_
              refine sd_iload_n C dX4_layRows_43 0 rfl rfl ?_
              refine sd_iald C (by decide) rfl (i) ⟨by omega, by omega⟩ dX4_layRows_44 ?_
              refine sd_istore_n (lv' := [(2, .int (τ 6 (i))), (1, .int p2), (0, .ref (ad 0))]) C dX4_layRows_45 rfl (by decide) rfl ?_
              have hbt : (τ 6 i).toInt = (((sp_srt (β 1) (sp_n β)).getD i 0 : Nat) : Int) := by rw [H2.1 6 i (by unfold sd_lay; omega)]; exact hB i (by omega)
              obtain ⟨c, hc0⟩ : ∃ c, c = (sp_srt (β 1) (sp_n β)).getD i 0 := ⟨_, rfl⟩
              rw [← hc0] at hbt
              have hcn : c < sp_n β := by rw [hc0]; exact sp_srt_mem.mp (sp_getD_mem (by omega))
              have hper := sp_per_lt hG (c := c) (by omega)
              have hxc : (τ 6 i).toInt.toNat = c := by omega
              have hwc := hCt.2.1 c (by omega)
              have hgc := hG.2.1 c (by omega)
              have hpc := hCt.2.2.1 (β 2 c).toNat (by omega)
              have hpg := hG.2.2.1 (β 2 c).toNat (by omega)
              refine sd_aload_n C dX4_layRows_46 2 rfl rfl ?_
              refine sd_get C (by decide) rfl rfl 4 (by decide) rfl wf_X4_32 dX4_layRows_47 ?_
              refine sd_iload_n C dX4_layRows_50 0 rfl rfl ?_
              refine sd_iconst C dX4_layRows_51 (by decide) (fun k51 ek51 => ?_)
              refine sd_iast C (by decide) (fun _ => rfl) ((τ 6 (i)).toInt.toNat) ⟨by omega, by omega⟩ dX4_layRows_52 (fun s52 es52 => ?_)
              have g52 : ∀ a k, a ≠ 10 → s52 a k = τ a k := fun a k h => by rw [es52, sd_st_ne h]
              refine sd_aload_n C dX4_layRows_53 2 rfl rfl ?_
              refine sd_get C (by decide) rfl rfl 5 (by decide) rfl wf_X4_35 dX4_layRows_54 ?_
              refine sd_iload_n C dX4_layRows_57 0 rfl rfl ?_
              refine sd_iconst C dX4_layRows_58 (by decide) (fun k58 ek58 => ?_)
              refine sd_iast C (by decide) (fun _ => rfl) ((τ 6 (i)).toInt.toNat) ⟨by omega, by omega⟩ dX4_layRows_59 (fun s59 es59 => ?_)
              have g59 : ∀ a k, a ≠ 10 → a ≠ 11 → s59 a k = τ a k := fun a k h h2 => by rw [es59, sd_st_ne h2]; exact g52 a k h
              refine sd_aload_n C dX4_layRows_60 2 rfl rfl ?_
              refine sd_get C (by decide) rfl rfl 3 (by decide) rfl wf_X4_22 dX4_layRows_61 ?_
              refine sd_aload_n C dX4_layRows_64 2 rfl rfl ?_
              refine sd_get C (by decide) rfl rfl 1 (by decide) rfl wf_X4_16 dX4_layRows_65 ?_
              refine sd_aload_n C dX4_layRows_68 2 rfl rfl ?_
              refine sd_get C (by decide) rfl rfl 0 (by decide) rfl wf_X4_10 dX4_layRows_69 ?_
              refine sd_get C (by decide) rfl rfl 1 (by decide) rfl wf_X4_100 dX4_layRows_72 ?_
              refine sd_iload_n C dX4_layRows_75 0 rfl rfl ?_
              refine sd_iald C (by decide) rfl (c) ⟨by omega, by omega⟩ dX4_layRows_76 ?_
              refine sd_iald C (by decide) rfl ((β 2 c).toNat) ⟨by rw [g59 3 _ (by decide) (by decide)]; omega, by omega⟩ dX4_layRows_77 ?_
              refine sd_aald9 C (sp_per β c) ⟨by rw [g59 7 _ (by decide) (by decide)]; unfold sp_per; omega, by omega⟩ dX4_layRows_78 ?_
              refine sd_iload_n C dX4_layRows_79 0 rfl rfl ?_
              obtain ⟨q1, q2⟩ := H2.2.1 (sp_per β c) hper
              obtain ⟨n, hn7⟩ : ∃ n, n = (((sp_srt (β 1) (sp_n β)).take i).filter (sp_cnts β (sp_per β c))).length := ⟨_, rfl⟩
              obtain ⟨w, hw7⟩ : ∃ w, w = (((sp_srt (β 1) (sp_n β)).take i).filter (sp_mine β (sp_per β c))).length := ⟨_, rfl⟩
              have hn9 : (s59 (16 + sp_per β c) 2).toInt = (n : Int) := by rw [es59, sd_st_ne (by omega), es52, sd_st_ne (by omega), hn7]; exact q1.1
              have hw9 : (s59 (16 + sp_per β c) 3).toInt = (w : Int) := by rw [es59, sd_st_ne (by omega), es52, sd_st_ne (by omega), hw7]; exact q2
              have hn8 : n ≤ 120 := by
                rw [hn7]
                refine Nat.le_trans (List.length_filter_le _ _) ?_
                rw [List.length_take]; omega
              have hw8 : w ≤ 1000 := by
                rw [hw7]
                refine Nat.le_trans (List.length_filter_le _ _) ?_
                rw [List.length_take]; omega
              refine sd_callVv C (c_X2_take l D ad ca T s59 (sp_per β c) c n w hper (τ 6 i) hbt (by omega) hn9 hn8 hw9 hw8) mv_X2_take wm_X4_181 (by omega) (sd_cell_row _ (by omega)) rfl (by decide) rfl rfl (Nat.le_of_ble_eq_true rfl) dX4_layRows_80 (fun s80 h80 => ?_)
              try dsimp only at h80
              refine sd_iinc C dX4_layRows_83 1 rfl (by decide) (by decide) (by omega) (fun zz => [(1, .int zz), (2, .int (τ 6 (i))), (0, .ref (ad 0))]) (fun _ => rfl) (fun u83 eu83 => ?_)
              refine sd_goto C 25 dX4_layRows_86 (by decide) ?_
              exact sd_lv (ih25 u83 (i + 1) s80 (by omega) (by omega) (sd_l2_step hG hC (by omega) hc0 ek51 ek58 (hxc ▸ es52) (hxc ▸ es59) H2 hn9 hw9 h80.1 h80.2.1 h80.2.2.2.2) (by omega)) [0, 2] rfl
        exact key25 _ k23 0 τ (by omega) (by omega) (sd_l2_0 (by rw [show (24 : Nat) = p by omega]; exact H)) (Nat.lt_succ_self _)
      · refine sd_aload_n C dX4_layRows_8 1 rfl rfl ?_
        refine sd_get C (by decide) rfl rfl 3 (by decide) rfl wf_X4_22 dX4_layRows_9 ?_
        refine sd_iload_n C dX4_layRows_12 0 rfl rfl ?_
        refine sd_aald9 C (p) ⟨by omega, by omega⟩ dX4_layRows_13 ?_
        refine sd_callVv C (c_X2_empty l D ad ca T τ p (by omega)) mv_X2_empty wm_X4_175 (by omega) (sd_cell_row _ (by omega)) rfl (by decide) rfl rfl (Nat.le_of_ble_eq_true rfl) dX4_layRows_14 (fun s14 h14 => ?_)
        try dsimp only at h14
        refine sd_iinc C dX4_layRows_17 0 rfl (by decide) (by decide) (by omega) (fun zz => [(1, .int zz), (0, .ref (ad 0))]) (fun _ => rfl) (fun u17 eu17 => ?_)
        refine sd_goto C 2 dX4_layRows_20 (by decide) ?_
        exact ih2 u17 (p + 1) s14 (by omega) (by omega) (sd_l1_step (by omega) H h14.1 h14.2.1 h14.2.2.1) (by omega)
  exact key2 _ k0 0 σ (by omega) (by omega) ⟨fun _ _ _ => rfl, fun q h => by omega⟩ (Nat.lt_succ_self _)

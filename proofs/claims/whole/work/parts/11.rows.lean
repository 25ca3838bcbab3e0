set_option maxRecDepth 20000 in
set_option maxHeartbeats 4000000 in
theorem c_X0_add (l : Launch) (D : va_G) (ad : Nat → Nat) (ca : Nat → ClassId) (T : Nat → Nat) (σ : sd_Mem) (n : Nat) (x1 x2 x3 : Int32) (hn : (σ 1 5).toInt = (n : Int)) (hn2 : n ≤ 120) (hb : ∀ j, j < n → 0 ≤ (σ 6 j).toInt ∧ (σ 6 j).toInt < (n : Int)) : sd_Ci l yX0_add cX0_add 6 0 D ad ca T σ [.ref (ad 1), .int x1, .int x2, .int x3] (fun r σ' => (n = 120 ∧ r.toInt = -1004 ∧ σ' = σ) ∨ (n < 120 ∧ r.toInt = (n : Int) ∧ (∀ i k, i ≠ 1 → i ≠ 2 → i ≠ 3 → i ≠ 4 → i ≠ 6 → σ' i k = σ i k) ∧ (σ' 1 5).toInt = (n : Int) + 1 ∧ (∀ k, σ' 2 k = if k = n then x1 else σ 2 k) ∧ (∀ k, σ' 3 k = if k = n then x2 else σ 3 k) ∧ (∀ k, σ' 4 k = if k = n then x3 else σ 4 k) ∧ ∃ a, a ≤ n ∧ (∀ j, j < a → σ' 6 j = σ 6 j) ∧ (σ' 6 a).toInt = (n : Int) ∧ (∀ j, a < j → j ≤ n → σ' 6 j = σ 6 (j - 1)) ∧ (∀ j, a ≤ j → j < n → x1.toInt < (σ 2 (σ 6 j).toInt.toNat).toInt) ∧ (a = 0 ∨ (σ 2 (σ 6 (a - 1)).toInt.toNat).toInt ≤ x1.toInt))) := by
  refine sd_ent_i (own := RX0) (by decide) rfl (Nat.le_of_ble_eq_true rfl) (fun X C hret => ?_)
  show sd_Wd X 6 D ad ca σ [(0, .ref (ad 1)), (1, .int x1), (2, .int x2), (3, .int x3)] 0 []
  refine sd_aload_n C dX0_add_0 0 rfl rfl ?_
  refine sd_get C (by decide) rfl rfl 5 (by decide) rfl wf_X0_28 dX0_add_1 ?_
  refine sd_bipush C dX0_add_4 (by decide) (fun k4 ek4 => ?_)
  refine sd_icmp_lt C 13 dX0_add_6 (by decide) (fun c6 => ?_) (fun c6 => ?_)
  · refine sd_aload_n C dX0_add_13 0 rfl rfl ?_
    refine sd_get C (by decide) rfl rfl 5 (by decide) rfl wf_X0_28 dX0_add_14 ?_
    refine sd_istore (lv' := [(4, .int (σ 1 5)), (0, .ref (ad 1)), (1, .int x1), (2, .int x2), (3, .int x3)]) C dX0_add_17 (by decide) rfl ?_
    refine sd_aload_n C dX0_add_19 1 rfl rfl ?_
    refine sd_get C (by decide) rfl rfl 0 (by decide) rfl wf_X0_9 dX0_add_20 ?_
    refine sd_iload C dX0_add_23 0 rfl ?_
    refine sd_iload_n C dX0_add_25 2 rfl rfl ?_
    refine sd_iast C (by decide) (fun _ => rfl) (n) ⟨by omega, by omega⟩ dX0_add_26 (fun s26 es26 => ?_)
    have f1 : s26 1 5 = σ 1 5 := by rw [es26, sd_st_ne (by decide)]
    refine sd_aload_n C dX0_add_27 1 rfl rfl ?_
    refine sd_get C (by decide) rfl rfl 1 (by decide) rfl wf_X0_15 dX0_add_28 ?_
    refine sd_iload C dX0_add_31 0 rfl ?_
    refine sd_iload_n C dX0_add_33 3 rfl rfl ?_
    refine sd_iast C (by decide) (fun _ => rfl) (n) ⟨by omega, by omega⟩ dX0_add_34 (fun s34 es34 => ?_)
    have f2 : s34 1 5 = σ 1 5 := by rw [es34, sd_st_ne (by decide)]; exact f1
    refine sd_aload_n C dX0_add_35 1 rfl rfl ?_
    refine sd_get C (by decide) rfl rfl 2 (by decide) rfl wf_X0_18 dX0_add_36 ?_
    refine sd_iload C dX0_add_39 0 rfl ?_
    refine sd_iload_n C dX0_add_41 4 rfl rfl ?_
    refine sd_iast C (by decide) (fun _ => rfl) (n) ⟨by omega, by omega⟩ dX0_add_42 (fun s42 es42 => ?_)
    have f3 : s42 1 5 = σ 1 5 := by rw [es42, sd_st_ne (by decide)]; exact f2
    refine sd_iload C dX0_add_43 0 rfl ?_
    refine sd_istore (lv' := [(5, .int (σ 1 5)), (4, .int (σ 1 5)), (0, .ref (ad 1)), (1, .int x1), (2, .int x2), (3, .int x3)]) C dX0_add_45 (by decide) rfl ?_
    have key47 : ∀ (fu47 : Nat) (x5 : Int32) (a : Nat) (τ : sd_Mem), (x5.toInt = (a : Int)) → (a ≤ n) → (∀ i k, i ≠ 6 → τ i k = s42 i k) → (∀ j, j < a → τ 6 j = σ 6 j) → (∀ j, a < j → j ≤ n → τ 6 j = σ 6 (j - 1)) → (∀ j, a ≤ j → j < n → x1.toInt < (σ 2 (σ 6 j).toInt.toNat).toInt) → (a < fu47) → sd_Wd X 6 D ad ca τ [(5, .int x5), (4, .int (σ 1 5)), (0, .ref (ad 1)), (1, .int x1), (2, .int x2), (3, .int x3)] 47 [] := by
      intro fu47
      induction fu47 with
      | zero => intro x5 a τ h5 ha hfr hlo hhi hgt hm47; exact absurd hm47 (Nat.not_lt_zero _)
      | succ fu47 ih47 =>
        intro x5 a τ h5 ha hfr hlo hhi hgt hm47
        have key92 : (a = 0 ∨ (σ 2 (σ 6 (a - 1)).toInt.toNat).toInt ≤ x1.toInt) → sd_Wd X 6 D ad ca τ [(5, .int x5), (4, .int (σ 1 5)), (0, .ref (ad 1)), (1, .int x1), (2, .int x2), (3, .int x3)] 92 [] := by
            intro  hstop
            refine sd_aload_n C dX0_add_92 2 rfl rfl ?_
            refine sd_get C (by decide) rfl rfl 4 (by decide) rfl wf_X0_25 dX0_add_93 ?_
            refine sd_iload C dX0_add_96 0 rfl ?_
            refine sd_iload C dX0_add_98 1 rfl ?_
            refine sd_iast C (by decide) (fun _ => rfl) (a) ⟨by omega, by omega⟩ dX0_add_100 (fun s100 es100 => ?_)
            have f4 : s100 1 5 = σ 1 5 := by rw [es100, sd_st_ne (by decide), hfr 1 5 (by decide)]; exact f3
            refine sd_aload_n C dX0_add_101 2 rfl rfl ?_
            refine sd_dup C dX0_add_102 rfl ?_
            refine sd_get C (by decide) rfl rfl 5 (by decide) rfl wf_X0_28 dX0_add_103 ?_
            refine sd_iconst C dX0_add_106 (by decide) (fun k106 ek106 => ?_)
            refine sd_iadd C dX0_add_107 (by rw [f4]; omega) (fun z107 ez107 => ?_)
            refine sd_put C (ty := .int) (by decide) rfl rfl 5 (by decide) rfl (by decide +kernel) rfl rfl (Nat.le_of_ble_eq_true rfl) (fun _ => rfl) wf_X0_28 dX0_add_108 (fun s108 es108 => ?_)
            refine sd_iload C dX0_add_111 1 rfl ?_
            exact hret _ _ _ _ dX0_add_113 (by
                refine Or.inr ⟨by omega, by omega, ?_, ?_, ?_, ?_, ?_, a, ha, ?_, ?_, ?_, hgt, hstop⟩
                · intro i k h1 h2 h3 h4 h6
                  rw [es108, sd_st_ne h1, es100, sd_st_ne h6, hfr i k h6, es42, sd_st_ne h4, es34, sd_st_ne h3, es26, sd_st_ne h2]
                · rw [es108, sd_st_at, ez107, f4]; omega
                · intro k
                  rw [es108, sd_st_ne (by decide), es100, sd_st_ne (by decide), hfr 2 k (by decide), es42, sd_st_ne (by decide), es34, sd_st_ne (by decide), es26, sd_st_eq]; simp
                · intro k
                  rw [es108, sd_st_ne (by decide), es100, sd_st_ne (by decide), hfr 3 k (by decide), es42, sd_st_ne (by decide), es34, sd_st_eq, es26]; simp [sd_st_eq]
                · intro k
                  rw [es108, sd_st_ne (by decide), es100, sd_st_ne (by decide), hfr 4 k (by decide), es42, sd_st_eq, es34, es26]; simp [sd_st_eq]
                · intro j hj
                  rw [es108, sd_st_ne (by decide), es100, sd_st_nk (by omega)]; exact hlo j hj
                · rw [es108, sd_st_ne (by decide), es100, sd_st_at]; exact hn
                · intro j h1 h2
                  rw [es108, sd_st_ne (by decide), es100, sd_st_nk (by omega)]; exact hhi j h1 h2)
        refine sd_iload C dX0_add_47 0 rfl ?_
        refine sd_if_le C 92 dX0_add_49 (by decide) (fun c49 => ?_) (fun c49 => ?_)
        · exact key92  (by first | (left; omega) | (right; rw [← q3]; exact c67))
        · have q1 := hlo (a - 1) (by omega)
          have q2 := hb (a - 1) (by omega)
          rw [← q1] at q2
          have q3 : τ 2 (τ 6 (a - 1)).toInt.toNat = σ 2 (σ 6 (a - 1)).toInt.toNat := by
            rw [hfr 2 _ (by decide), es42, sd_st_ne (by decide), es34, sd_st_ne (by decide), es26, sd_st_nk (by omega), q1]
          refine sd_aload_n C dX0_add_52 2 rfl rfl ?_
          refine sd_get C (by decide) rfl rfl 0 (by decide) rfl wf_X0_9 dX0_add_53 ?_
          refine sd_aload_n C dX0_add_56 2 rfl rfl ?_
          refine sd_get C (by decide) rfl rfl 4 (by decide) rfl wf_X0_25 dX0_add_57 ?_
          refine sd_iload C dX0_add_60 0 rfl ?_
          refine sd_iconst C dX0_add_62 (by decide) (fun k62 ek62 => ?_)
          refine sd_isub C dX0_add_63 (by omega) (fun z63 ez63 => ?_)
          refine sd_iald C (by decide) rfl ((a - 1)) ⟨by omega, by omega⟩ dX0_add_64 ?_
          refine sd_iald C (by decide) rfl ((τ 6 ((a - 1))).toInt.toNat) ⟨by omega, by omega⟩ dX0_add_65 ?_
          refine sd_iload_n C dX0_add_66 3 rfl rfl ?_
          refine sd_icmp_le C 92 dX0_add_67 (by decide) (fun c67 => ?_) (fun c67 => ?_)
          · exact key92  (by first | (left; omega) | (right; rw [← q3]; exact c67))
          · refine sd_aload_n C dX0_add_70 2 rfl rfl ?_
            refine sd_get C (by decide) rfl rfl 4 (by decide) rfl wf_X0_25 dX0_add_71 ?_
            refine sd_iload C dX0_add_74 0 rfl ?_
            refine sd_aload_n C dX0_add_76 2 rfl rfl ?_
            refine sd_get C (by decide) rfl rfl 4 (by decide) rfl wf_X0_25 dX0_add_77 ?_
            refine sd_iload C dX0_add_80 0 rfl ?_
            refine sd_iconst C dX0_add_82 (by decide) (fun k82 ek82 => ?_)
            refine sd_isub C dX0_add_83 (by omega) (fun z83 ez83 => ?_)
            refine sd_iald C (by decide) rfl ((a - 1)) ⟨by omega, by omega⟩ dX0_add_84 ?_
            refine sd_iast C (by decide) (fun _ => rfl) (a) ⟨by omega, by omega⟩ dX0_add_85 (fun s85 es85 => ?_)
            refine sd_iinc C dX0_add_86 0 rfl (by decide) (by decide) (by omega) (fun zz => [(5, .int zz), (4, .int (σ 1 5)), (0, .ref (ad 1)), (1, .int x1), (2, .int x2), (3, .int x3)]) (fun _ => rfl) (fun u86 eu86 => ?_)
            refine sd_goto C 47 dX0_add_89 (by decide) ?_
            exact ih47 u86 (a - 1) s85 (by omega) (by omega) (fun i k h => by rw [es85, sd_st_ne h]; exact hfr i k h) (fun j hj => by rw [es85, sd_st_nk (by omega)]; exact hlo j (by omega)) (fun j h1 h2 => by
                  by_cases hj : j = a
                  · subst hj; rw [es85, sd_st_at, q1]
                  · rw [es85, sd_st_nk hj]; exact hhi j (by omega) h2) (fun j h1 h2 => by
                  by_cases hj : j = a - 1
                  · subst hj; rw [← q3]; exact c67
                  · exact hgt j (by omega) h2) (by omega)
    exact key47 _ (σ 1 5) n s42 hn (Nat.le_refl n) (fun _ _ _ => rfl) (fun j hj => by rw [es42, sd_st_ne (by decide), es34, sd_st_ne (by decide), es26, sd_st_ne (by decide)]) (fun j h1 h2 => by omega) (fun j h1 h2 => by omega) (Nat.lt_succ_self _)
  · refine sd_sipush C dX0_add_9 (by decide) (fun k9 ek9 => ?_)
    exact hret _ _ _ _ dX0_add_12 (Or.inl ⟨by omega, by omega, rfl⟩)

set_option maxRecDepth 20000 in
set_option maxHeartbeats 4000000 in
theorem c_X2_empty (l : Launch) (D : va_G) (ad : Nat → Nat) (ca : Nat → ClassId) (T : Nat → Nat) (σ : sd_Mem) (q : Nat) (hq : q < 24) : sd_Cv l yX2_empty cX2_empty 1 0 D ad ca T σ [.ref (ad (16 + q))] (fun σ' => (∀ i k, i ≠ 16 + q → σ' i k = σ i k) ∧ (σ' (16 + q) 2).toInt = 0 ∧ (σ' (16 + q) 3).toInt = 0 ∧ (σ' (16 + q) 4).toInt = 0 ∧ (σ' (16 + q) 5).toInt = 0) := by
  refine sd_ent_v (own := RX2) (by decide) rfl (Nat.le_of_ble_eq_true rfl) (fun X C hret => ?_)
  show sd_Wd X 1 D ad ca σ [(0, .ref (ad (16 + q)))] 0 []
  refine sd_aload_n C dX2_empty_0 0 rfl rfl ?_
  refine sd_iconst C dX2_empty_1 (by decide) (fun k1 ek1 => ?_)
  refine sd_put C (ty := .int) (by omega) (sd_cell_row _ (by omega)) rfl 2 (by decide) rfl (by decide +kernel) rfl rfl (Nat.le_of_ble_eq_true rfl) (fun _ => by rw [sd_cell_row _ (by omega)]; rfl) wf_X2_19 dX2_empty_2 (fun s2 es2 => ?_)
  refine sd_aload_n C dX2_empty_5 0 rfl rfl ?_
  refine sd_iconst C dX2_empty_6 (by decide) (fun k6 ek6 => ?_)
  refine sd_put C (ty := .int) (by omega) (sd_cell_row _ (by omega)) rfl 3 (by decide) rfl (by decide +kernel) rfl rfl (Nat.le_of_ble_eq_true rfl) (fun _ => by rw [sd_cell_row _ (by omega)]; rfl) wf_X2_35 dX2_empty_7 (fun s7 es7 => ?_)
  refine sd_aload_n C dX2_empty_10 0 rfl rfl ?_
  refine sd_iconst C dX2_empty_11 (by decide) (fun k11 ek11 => ?_)
  refine sd_put C (ty := .boolean) (by omega) (sd_cell_row _ (by omega)) rfl 4 (by decide) rfl (by decide +kernel) (sd_nb (by omega)) (sd_fb (by omega)) (Nat.le_of_ble_eq_true rfl) (fun _ => by rw [sd_cell_row _ (by omega)]; rfl) wf_X2_38 dX2_empty_12 (fun s12 es12 => ?_)
  refine sd_aload_n C dX2_empty_15 0 rfl rfl ?_
  refine sd_iconst C dX2_empty_16 (by decide) (fun k16 ek16 => ?_)
  refine sd_put C (ty := .int) (by omega) (sd_cell_row _ (by omega)) rfl 5 (by decide) rfl (by decide +kernel) rfl rfl (Nat.le_of_ble_eq_true rfl) (fun _ => by rw [sd_cell_row _ (by omega)]; rfl) wf_X2_42 dX2_empty_17 (fun s17 es17 => ?_)
  exact hret _ _ _ dX2_empty_20 (by
      refine ⟨fun i k h => ?_, ?_, ?_, ?_, ?_⟩
      · rw [es17, sd_st_ne h, es12, sd_st_ne h, es7, sd_st_ne h, es2, sd_st_ne h]
      · rw [es17, sd_st_nk (by decide), es12, sd_st_nk (by decide), es7, sd_st_nk (by decide), es2, sd_st_at]; exact ek1
      · rw [es17, sd_st_nk (by decide), es12, sd_st_nk (by decide), es7, sd_st_at]; exact ek6
      · rw [es17, sd_st_nk (by decide), es12, sd_st_at]; exact ek11
      · rw [es17, sd_st_at]; exact ek16)

set_option maxRecDepth 20000 in
set_option maxHeartbeats 4000000 in
theorem c_X2_take (l : Launch) (D : va_G) (ad : Nat → Nat) (ca : Nat → ClassId) (T : Nat → Nat) (σ : sd_Mem) (q c n w : Nat) (hq : q < 24) (x : Int32) (hx : x.toInt = (c : Int)) (hc : c < 120) (hz : (σ (16 + q) 2).toInt = (n : Int)) (hn : n ≤ 120) (ho : (σ (16 + q) 3).toInt = (w : Int)) (hw : w ≤ 1000) : sd_Cv l yX2_take cX2_take 2 0 D ad ca T σ [.ref (ad (16 + q)), .int x] (fun σ' => (∀ i k, i ≠ 16 + q → i ≠ 40 + q → σ' i k = σ i k) ∧ (σ' (16 + q) 3).toInt = (w : Int) + 1 ∧ σ' (16 + q) 4 = σ (16 + q) 4 ∧ σ' (16 + q) 5 = σ (16 + q) 5 ∧ (((σ 5 c).toInt = 0 ∧ n < 120 ∧ (σ' (16 + q) 2).toInt = (n : Int) + 1 ∧ (σ' (40 + q) n).toInt = (c : Int) ∧ ∀ k, k ≠ n → σ' (40 + q) k = σ (40 + q) k) ∨ (((σ 5 c).toInt ≠ 0 ∨ n = 120) ∧ (σ' (16 + q) 2).toInt = (n : Int) ∧ ∀ k, σ' (40 + q) k = σ (40 + q) k))) := by
  refine sd_ent_v (own := RX2) (by decide) rfl (Nat.le_of_ble_eq_true rfl) (fun X C hret => ?_)
  show sd_Wd X 2 D ad ca σ [(0, .ref (ad (16 + q))), (1, .int x)] 0 []
  refine sd_aload_n C dX2_take_0 0 rfl rfl ?_
  refine sd_dup C dX2_take_1 rfl ?_
  refine sd_get C (by omega) (sd_cell_row _ (by omega)) rfl 3 (by decide) rfl wf_X2_35 dX2_take_2 ?_
  refine sd_iconst C dX2_take_5 (by decide) (fun k5 ek5 => ?_)
  refine sd_iadd C dX2_take_6 (by omega) (fun z6 ez6 => ?_)
  refine sd_put C (ty := .int) (by omega) (sd_cell_row _ (by omega)) rfl 3 (by decide) rfl (by decide +kernel) rfl rfl (Nat.le_of_ble_eq_true rfl) (fun _ => by rw [sd_cell_row _ (by omega)]; rfl) wf_X2_35 dX2_take_7 (fun s7 es7 => ?_)
  have f1 : s7 (16 + q) 2 = σ (16 + q) 2 := by rw [es7, sd_st_nk (by decide)]
  have f2 : s7 5 c = σ 5 c := by rw [es7, sd_st_ne (by omega)]
  have f3 : ∀ k, s7 (40 + q) k = σ (40 + q) k := fun k => by rw [es7, sd_st_ne (by omega)]
  refine sd_aload_n C dX2_take_10 0 rfl rfl ?_
  refine sd_get C (by omega) (sd_cell_row _ (by omega)) rfl 0 (by decide) rfl wf_X2_15 dX2_take_11 ?_
  refine sd_get C (by decide) rfl rfl 3 (by decide) rfl wf_X2_45 dX2_take_14 ?_
  refine sd_iload_n C dX2_take_17 1 rfl rfl ?_
  refine sd_zald C (by decide) rfl (c) ⟨by omega, by omega⟩ dX2_take_18 ?_
  refine sd_if_ne C 51 dX2_take_19 (by decide) (fun c19 => ?_) (fun c19 => ?_)
  · exact hret _ _ _ dX2_take_51 (by
        refine ⟨fun i k h1 h2 => ?_, ?_, ?_, ?_, Or.inr ⟨?_, by rw [f1]; exact hz, f3⟩⟩
        · rw [es7, sd_st_ne h1]
        · rw [es7, sd_st_at, ez6]; omega
        · rw [es7, sd_st_nk (by decide)]
        · rw [es7, sd_st_nk (by decide)]
        · first | (left; rw [← f2]; exact c19) | (right; rw [f1] at c28; omega))
  · refine sd_aload_n C dX2_take_22 0 rfl rfl ?_
    refine sd_get C (by omega) (sd_cell_row _ (by omega)) rfl 2 (by decide) rfl wf_X2_19 dX2_take_23 ?_
    refine sd_bipush C dX2_take_26 (by decide) (fun k26 ek26 => ?_)
    refine sd_icmp_ge C 51 dX2_take_28 (by decide) (fun c28 => ?_) (fun c28 => ?_)
    · exact hret _ _ _ dX2_take_51 (by
          refine ⟨fun i k h1 h2 => ?_, ?_, ?_, ?_, Or.inr ⟨?_, by rw [f1]; exact hz, f3⟩⟩
          · rw [es7, sd_st_ne h1]
          · rw [es7, sd_st_at, ez6]; omega
          · rw [es7, sd_st_nk (by decide)]
          · rw [es7, sd_st_nk (by decide)]
          · first | (left; rw [← f2]; exact c19) | (right; rw [f1] at c28; omega))
    · refine sd_aload_n C dX2_take_31 0 rfl rfl ?_
      refine sd_get C (by omega) (sd_cell_row _ (by omega)) rfl 1 (by decide) rfl wf_X2_9 dX2_take_32 ?_
      refine sd_aload_n C dX2_take_35 0 rfl rfl ?_
      refine sd_get C (by omega) (sd_cell_row _ (by omega)) rfl 2 (by decide) rfl wf_X2_19 dX2_take_36 ?_
      refine sd_iload_n C dX2_take_39 1 rfl rfl ?_
      refine sd_iast C (by omega) (fun _ => sd_cell_rowA _ (by omega)) (n) ⟨by rw [f1]; omega, by rw [f1] at c28; omega⟩ dX2_take_40 (fun s40 es40 => ?_)
      have f4 : s40 (16 + q) 2 = σ (16 + q) 2 := by rw [es40, sd_st_ne (by omega)]; exact f1
      refine sd_aload_n C dX2_take_41 0 rfl rfl ?_
      refine sd_dup C dX2_take_42 rfl ?_
      refine sd_get C (by omega) (sd_cell_row _ (by omega)) rfl 2 (by decide) rfl wf_X2_19 dX2_take_43 ?_
      refine sd_iconst C dX2_take_46 (by decide) (fun k46 ek46 => ?_)
      refine sd_iadd C dX2_take_47 (by rw [f4]; omega) (fun z47 ez47 => ?_)
      refine sd_put C (ty := .int) (by omega) (sd_cell_row _ (by omega)) rfl 2 (by decide) rfl (by decide +kernel) rfl rfl (Nat.le_of_ble_eq_true rfl) (fun _ => by rw [sd_cell_row _ (by omega)]; rfl) wf_X2_19 dX2_take_48 (fun s48 es48 => ?_)
      exact hret _ _ _ dX2_take_51 (by
          rw [f2] at c19
          rw [f1] at c28
          refine ⟨fun i k h1 h2 => ?_, ?_, ?_, ?_, Or.inl ⟨c19, by omega, ?_, ?_, fun k h => ?_⟩⟩
          · rw [es48, sd_st_ne h1, es40, sd_st_ne h2, es7, sd_st_ne h1]
          · rw [es48, sd_st_nk (by decide), es40, sd_st_ne (by omega), es7, sd_st_at, ez6]; omega
          · rw [es48, sd_st_nk (by decide), es40, sd_st_ne (by omega), es7, sd_st_nk (by decide)]
          · rw [es48, sd_st_nk (by decide), es40, sd_st_ne (by omega), es7, sd_st_nk (by decide)]
          · rw [es48, sd_st_at, ez47, f4]; omega
          · rw [es48, sd_st_ne (by omega), es40, sd_st_at]; exact hx
          · rw [es48, sd_st_ne (by omega), es40, sd_st_nk h]; exact f3 k)

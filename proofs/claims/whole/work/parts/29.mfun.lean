def sd_fe (σ σ' : sd_Mem) : Prop := ∀ i k, i ≠ 90 → ¬ (i = 76 ∧ k = 19) → σ' i k = σ i k
theorem sd_fe.rf (σ : sd_Mem) : sd_fe σ σ := fun _ _ _ _ => rfl
theorem sd_fe.st {σ τ : sd_Mem} (h : sd_fe σ τ) {i k : Nat} {x : Int32} (hi : i = 90 ∨ (i = 76 ∧ k = 19)) : sd_fe σ (sd_st τ i k x) := fun a b h1 h2 => by rw [sd_st_eq, if_neg (by omega)]; exact h a b h1 h2
def sd_fs (σ σ' : sd_Mem) : Prop := ∀ i k, i < 90 → ¬ (i = 76 ∧ (k = 19 ∨ k = 22)) → σ' i k = σ i k
theorem sd_fe.fs {σ τ : sd_Mem} (h : sd_fe σ τ) : sd_fs σ τ := fun i k h1 h2 => h i k (by omega) (by omega)
theorem sd_fs.rf (σ : sd_Mem) : sd_fs σ σ := fun _ _ _ _ => rfl
theorem sd_fs.tr {σ τ υ : sd_Mem} (h1 : sd_fs σ τ) (h2 : sd_fs τ υ) : sd_fs σ υ := fun i k a b => by rw [h2 i k a b, h1 i k a b]
theorem sd_fs.st {σ τ : sd_Mem} (h : sd_fs σ τ) {i k : Nat} {x : Int32} (hi : 90 ≤ i ∨ (i = 76 ∧ (k = 19 ∨ k = 22))) : sd_fs σ (sd_st τ i k x) := fun a b h1 h2 => by rw [sd_st_eq, if_neg (by omega)]; exact h a b h1 h2
theorem sd_fs.keep {σ τ : sd_Mem} (h : sd_fs σ τ) : sd_keep σ τ := fun i k h1 h2 => h i k (by omega) (by omega)
theorem sd_fs.lo {σ τ : sd_Mem} (h : sd_fs σ τ) : sd_lo σ τ := fun i k h1 => h i k (by omega) (by omega)
theorem sd_MW_fs {σ τ : sd_Mem} {β : sp_B} {l : List Nat} (h : sd_fs σ τ) (hW : sd_MW σ β l) : sd_MW τ β l := by
  obtain ⟨a, b, c, d, e, f⟩ := hW
  refine ⟨sd_MR_fr h.keep a, b, ?_, fun j hj => ?_, e, f⟩
  · rw [h 76 15 (by omega) (by omega)]; exact c
  · rw [h 88 j (by omega) (by omega)]; exact d j hj
def fEj (β : sp_B) (f : Nat) (l : List Nat) (k a : Nat) : Int := match fE β f l k a with
  | none => -1
  | some i => (a : Int) + (i : Int)
theorem fEj_i {β : sp_B} {f : Nat} {l : List Nat} {a : Nat} : fEj β f l (β 7 f).toNat a = fEi β f l a := rfl
theorem fEi_neg {β : sp_B} {f : Nat} {l : List Nat} {a : Nat} {z : Int} (h : z = fEi β f l a) (hz : z < 0) : fE β f l (β 7 f).toNat a = none := by
  rcases fEi_cases h with ⟨_, w⟩ | ⟨i, w, _⟩
  · exact w
  · omega
theorem fEi_pos {β : sp_B} {f : Nat} {l : List Nat} {W : List (Nat × Nat)} {a : Nat} {z : Int} (h : z = fEi β f l a) (hz : 0 ≤ z) (hm : fMay β f l W a = true) : ∃ ee : Nat, z = (a : Int) + (ee : Int) ∧ fMay β f l W a = true ∧ fE β f l (β 7 f).toNat a = some ee := by
  rcases fEi_cases h with ⟨w, _⟩ | ⟨i, w1, w2⟩
  · omega
  · exact ⟨i, w1, hm, w2⟩
theorem fz_cnt_succ (xs : Nat → Int) (s : Int) (m n : Nat) (h : n = m + 1) : fz_cnt xs s n = fz_cnt xs s m + if xs n = s then 1 else 0 := by subst h; rw [fz_cnt]
theorem fz_g_succ (st xs : Nat → Int) (M m n : Nat) (h : n = m + 1) : fz_g st xs M n = if fz_g st xs M m < M ∧ xs n = st (fz_g st xs M m + 1) then fz_g st xs M m + 1 else fz_g st xs M m := by subst h; rw [fz_g]
theorem fw_last {β : sp_B} {f : Nat} {l : List Nat} {j : Nat} (h : 0 < (fw β f l j).length) : ∃ q, (fw β f l j).getLast? = some q := by
  cases hl : (fw β f l j).getLast? with
  | some q => exact ⟨q, rfl⟩
  | none => rw [List.getLast?_eq_none_iff] at hl; rw [hl] at h; exact absurd h (Nat.lt_irrefl 0)
theorem fw_lastm {β : sp_B} {f : Nat} {l : List Nat} {j : Nat} (hj : j ≤ l.length) {q : Nat × Nat} (h : (fw β f l j).getLast? = some q) : q.1 < j ∧ (fw β f l j).getD ((fw β f l j).length - 1) (0, 0) = q ∧ q.1 < l.length := by
  have hm := fw_mem j hj q (List.mem_of_getLast? h)
  refine ⟨hm.1, ?_, by omega⟩
  rw [List.getLast?_eq_getElem?] at h
  rw [List.getD_eq_getElem?_getD, h]; rfl
theorem fMay_nil {β : sp_B} {f : Nat} {l : List Nat} {w : List (Nat × Nat)} {j : Nat} (h : w.length = 0) : fMay β f l w j = true := by
  have : w = [] := List.length_eq_zero_iff.mp h
  subst this
  rfl
theorem fMay_last {β : sp_B} {f : Nat} {l : List Nat} {w : List (Nat × Nat)} {j : Nat} {q : Nat × Nat} (h : w.getLast? = some q) : fMay β f l w j = decide (β 1 (l.getD j 0) - β 1 (l.getD q.1 0) > β 9 f) := by
  unfold fMay
  rw [h]
theorem fw_sz0 {β : sp_B} {f : Nat} {l : List Nat} (h : (β 7 f).toNat = 0) : ∀ j, fw β f l j = []
  | 0 => rfl
  | j + 1 => by
    have hE : fE β f l (β 7 f).toNat j = none := fE_none (fun i _ => by rw [h]; exact fT_zero)
    rw [fw_no (Or.inr hE), fw_sz0 h j]
set_option maxRecDepth 20000 in
set_option maxHeartbeats 4000000 in
theorem c_X5_endOf (l : Launch) (D : va_G) (ad : Nat → Nat) (ca : Nat → ClassId) (T : Nat → Nat) (σ : sd_Mem) (β : sp_B) (l9 : List Nat) (hW : sd_MW σ β l9) (f : Nat) (hf : f < 6) (k a : Nat) (hk1 : 1 ≤ k) (hk : k ≤ (β 7 f).toNat) (ha : a < l9.length) (x1 x2 x3 : Int32) (hx1 : x1.toInt = (f : Int)) (hx2 : x2.toInt = (k : Int)) (hx3 : x3.toInt = (a : Int)) : sd_Ci l yX5_endOf cX5_endOf 6 2 D ad ca T σ [.ref (ad 76), .int x1, .int x2, .int x3] (fun r σ' => r.toInt = fEj β f l9 k a ∧ sd_fe σ σ') := by
  refine sd_ent_i (own := RX5) (by decide) rfl (Nat.le_of_ble_eq_true rfl) (fun X C hret => ?_)
  show sd_Wd X 6 D ad ca σ [(0, .ref (ad 76)), (1, .int x1), (2, .int x2), (3, .int x3)] 0 []
  obtain ⟨hM, hG, hz, hrow, hl9, hlt⟩ := id hW
  have tg := hG.2.2.2.2.1 f hf
  have t1 := hW.at (j := a) ha
  refine sd_iconst C dX5_endOf_0 (by decide) (fun k0 ek0 => ?_)
  refine sd_istore (lv' := [(4, .int k0), (0, .ref (ad 76)), (1, .int x1), (2, .int x2), (3, .int x3)]) C dX5_endOf_1 (by decide) rfl ?_
  have key3 : ∀ (fu3 : Nat) (y4 : Int32) (t : Nat) (τ : sd_Mem), (y4.toInt = (t : Int)) → (t ≤ 8) → (∀ s, s < t → (τ 90 s).toInt = 0) → (sd_fe σ τ) → (8 - t < fu3) → sd_Wd X 6 D ad ca τ [(4, .int y4), (0, .ref (ad 76)), (1, .int x1), (2, .int x2), (3, .int x3)] 3 [] := by
    intro fu3
    induction fu3 with
    | zero => intro y4 t τ h4 ht hzs fst hm3; exact absurd hm3 (Nat.not_lt_zero _)
    | succ fu3 ih3 =>
      intro y4 t τ h4 ht hzs fst hm3
      refine sd_iload C dX5_endOf_3 0 rfl ?_
      refine sd_bipush C dX5_endOf_5 (by decide) (fun k5 ek5 => ?_)
      refine sd_icmp_ge C 24 dX5_endOf_7 (by decide) (fun c7 => ?_) (fun c7 => ?_)
      · refine sd_aload_n C dX5_endOf_24 1 rfl rfl ?_
        refine sd_iconst C dX5_endOf_25 (by decide) (fun k25 ek25 => ?_)
        refine sd_put C (ty := .int) (by decide) rfl rfl 19 (by decide) rfl (by decide +kernel) rfl rfl (Nat.le_of_ble_eq_true rfl) (fun _ => rfl) wf_X5_140 dX5_endOf_26 (fun s26 es26 => ?_)
        refine sd_iload_n C dX5_endOf_29 4 rfl rfl ?_
        refine sd_istore (lv' := [(4, .int x3), (0, .ref (ad 76)), (1, .int x1), (2, .int x2), (3, .int x3)]) C dX5_endOf_30 (by decide) rfl ?_
        have key32 : ∀ (fu32 : Nat) (w4 : Int32) (i : Nat) (υ : sd_Mem), (w4.toInt = (a : Int) + (i : Int)) → (a + i ≤ l9.length) → (∀ s : Nat, s < 8 → (υ 90 s).toInt = (fz_cnt (fun i => β 3 (l9.getD (a + i) 0)) (s : Int) (i - 2) : Int)) → ((υ 76 19).toInt = (fz_g (fun j => β 11 (4 * f + j)) (fun i => β 3 (l9.getD (a + i) 0)) (k - 2) (i - 2) : Int)) → (∀ i', i' < i → fWb β f l9 a i' = true) → (∀ i', i' < i → fT β f l9 a i' (2 ^ k - 1) = false) → (sd_fe σ υ) → (l9.length - i < fu32) → sd_Wd X 6 D ad ca υ [(4, .int w4), (0, .ref (ad 76)), (1, .int x1), (2, .int x2), (3, .int x3)] 32 [] := by
          intro fu32
          induction fu32 with
          | zero => intro w4 i υ h4 hil hbt hmd hwi hno fsu hm32; exact absurd hm32 (Nat.not_lt_zero _)
          | succ fu32 ih32 =>
            intro w4 i υ h4 hil hbt hmd hwi hno fsu hm32
            have hWt := sd_MW_fs fsu.fs hW
            have hMt := hWt.1
            have hzt := hWt.2.2.1
            have hwf := (hMt.2.2.2.2.1 f hf).2.1
            have hgl := fz_g_le (fun j => β 11 (4 * f + j)) (fun i => β 3 (l9.getD (a + i) 0)) (k - 2) (i - 2)
            have key153 : ∀ (ω : sd_Mem), (a + i < l9.length) → (fWb β f l9 a i = true) → (∀ s : Nat, s < 8 → (ω 90 s).toInt = (fz_cnt (fun i => β 3 (l9.getD (a + i) 0)) (s : Int) (i - 1) : Int)) → ((ω 76 19).toInt = (fz_g (fun j => β 11 (4 * f + j)) (fun i => β 3 (l9.getD (a + i) 0)) (k - 2) (i - 1) : Int)) → (sd_fe σ ω) → sd_Wd X 6 D ad ca ω [(4, .int w4), (0, .ref (ad 76)), (1, .int x1), (2, .int x2), (3, .int x3)] 153 [] := by
                intro ω hin hwin hbt2 hmd2 fso
                have hWu := sd_MW_fs fso.fs hW
                refine sd_aload_n C dX5_endOf_153 1 rfl rfl ?_
                refine sd_iload_n C dX5_endOf_154 2 rfl rfl ?_
                refine sd_iload_n C dX5_endOf_155 3 rfl rfl ?_
                refine sd_iload_n C dX5_endOf_156 4 rfl rfl ?_
                refine sd_iload C dX5_endOf_157 0 rfl ?_
                refine sd_pVz C (c_X5_isWay l D ad ca T ω β l9 hWu f k a i hf hk1 hk (by omega) hbt2 hmd2 x1 x2 x3 w4 hx1 hx2 hx3 h4) mv_X5_isWay wm_X5_147 (by decide) rfl rfl (by decide) rfl rfl (Nat.le_of_ble_eq_true rfl) dX5_endOf_159 (fun r159 h159 => ?_)
                try dsimp only at h159
                refine sd_if_eq C 168 dX5_endOf_162 (by decide) (fun c162 => ?_) (fun c162 => ?_)
                · refine sd_iinc C dX5_endOf_168 0 rfl (by decide) (by decide) (by omega) (fun zz => [(4, .int zz), (0, .ref (ad 76)), (1, .int x1), (2, .int x2), (3, .int x3)]) (fun _ => rfl) (fun u168 eu168 => ?_)
                  refine sd_goto C 32 dX5_endOf_171 (by decide) ?_
                  exact ih32 u168 (i + 1) ω (by omega) (by omega) (by rw [show i + 1 - 2 = i - 1 by omega]; exact hbt2) (by rw [show i + 1 - 2 = i - 1 by omega]; exact hmd2) (fun i' h => by
                        by_cases e : i' = i
                        · subst e; exact hwin
                        · exact hwi i' (by omega)) (fun i' h => by
                        by_cases e : i' = i
                        · subst e; rcases h159 with w | w
                          · exact absurd w.1 (by omega)
                          · exact w.2
                        · exact hno i' (by omega)) fso (by omega)
                · refine sd_iload C dX5_endOf_165 0 rfl ?_
                  exact hret _ _ _ _ dX5_endOf_167 (by
                      have w9 : fT β f l9 a i (2 ^ k - 1) = true := by
                        rcases h159 with w | w
                        · exact w.2
                        · exact absurd w.1 (by omega)
                      refine ⟨?_, fso⟩
                      unfold fEj
                      rw [fE_some hwin w9 hno]
                      exact h4)
            refine sd_iload C dX5_endOf_32 0 rfl ?_
            refine sd_aload_n C dX5_endOf_34 1 rfl rfl ?_
            refine sd_get C (by decide) rfl rfl 15 (by decide) rfl wf_X5_86 dX5_endOf_35 ?_
            refine sd_icmp_ge C 174 dX5_endOf_38 (by decide) (fun c38 => ?_) (fun c38 => ?_)
            · refine sd_iconst C dX5_endOf_174 (by decide) (fun k174 ek174 => ?_)
              exact hret _ _ _ _ dX5_endOf_175 (by
                  refine ⟨?_, fsu⟩
                  unfold fEj
                  rw [fE_none (fun j w => hno j (fW_stop (i := i) (by omega) w))]
                  exact ek174)
            · have t2 := hWt.at (j := a + i) (by omega)
              have t3 := hWt.at (j := a) ha
              refine sd_aload_n C dX5_endOf_41 1 rfl rfl ?_
              refine sd_get C (by decide) rfl rfl 1 (by decide) rfl wf_X5_7 dX5_endOf_42 ?_
              refine sd_aload_n C dX5_endOf_45 1 rfl rfl ?_
              refine sd_get C (by decide) rfl rfl 13 (by decide) rfl wf_X5_44 dX5_endOf_46 ?_
              refine sd_iload C dX5_endOf_49 0 rfl ?_
              refine sd_iald C (by decide) rfl ((a + i)) ⟨by omega, by omega⟩ dX5_endOf_51 ?_
              refine sd_iald C (by decide) rfl (l9.getD (a + i) 0) ⟨by omega, by omega⟩ dX5_endOf_52 ?_
              refine sd_aload_n C dX5_endOf_53 1 rfl rfl ?_
              refine sd_get C (by decide) rfl rfl 1 (by decide) rfl wf_X5_7 dX5_endOf_54 ?_
              refine sd_aload_n C dX5_endOf_57 1 rfl rfl ?_
              refine sd_get C (by decide) rfl rfl 13 (by decide) rfl wf_X5_44 dX5_endOf_58 ?_
              refine sd_iload_n C dX5_endOf_61 4 rfl rfl ?_
              refine sd_iald C (by decide) rfl (a) ⟨by omega, by omega⟩ dX5_endOf_62 ?_
              refine sd_iald C (by decide) rfl (l9.getD a 0) ⟨by omega, by omega⟩ dX5_endOf_63 ?_
              refine sd_isub C dX5_endOf_64 (by omega) (fun z64 ez64 => ?_)
              refine sd_aload_n C dX5_endOf_65 1 rfl rfl ?_
              refine sd_get C (by decide) rfl rfl 9 (by decide) rfl wf_X5_32 dX5_endOf_66 ?_
              refine sd_iload_n C dX5_endOf_69 2 rfl rfl ?_
              refine sd_iald C (by decide) rfl (f) ⟨by omega, by omega⟩ dX5_endOf_70 ?_
              refine sd_icmp_gt C 174 dX5_endOf_71 (by decide) (fun c71 => ?_) (fun c71 => ?_)
              · refine sd_iconst C dX5_endOf_174 (by decide) (fun k174 ek174 => ?_)
                exact hret _ _ _ _ dX5_endOf_175 (by
                    refine ⟨?_, fsu⟩
                    unfold fEj
                    rw [fE_none (fun j w => hno j (fW_stop (i := i) (by omega) w))]
                    exact ek174)
              · refine sd_iload C dX5_endOf_74 0 rfl ?_
                refine sd_iload_n C dX5_endOf_76 4 rfl rfl ?_
                refine sd_iconst C dX5_endOf_77 (by decide) (fun k77 ek77 => ?_)
                refine sd_iadd C dX5_endOf_78 (by omega) (fun z78 ez78 => ?_)
                refine sd_icmp_le C 153 dX5_endOf_79 (by decide) (fun c79 => ?_) (fun c79 => ?_)
                · exact key153 υ (by omega) (fW_succ hwi (by omega) (by omega)) (by rw [show i - 1 = i - 2 by omega]; exact hbt) (by rw [show i - 1 = i - 2 by omega]; exact hmd) fsu
                · have t4 := hWt.at (j := a + (i - 1)) (by omega)
                  have v1 := hbt (β 3 (l9.getD (a + (i - 1)) 0)).toNat (by omega)
                  have v2 := fz_cnt_le (fun i => β 3 (l9.getD (a + i) 0)) ((β 3 (l9.getD (a + (i - 1)) 0)).toNat : Int) (i - 2)
                  refine sd_aload_n C dX5_endOf_82 1 rfl rfl ?_
                  refine sd_get C (by decide) rfl rfl 3 (by decide) rfl wf_X5_16 dX5_endOf_83 ?_
                  refine sd_aload_n C dX5_endOf_86 1 rfl rfl ?_
                  refine sd_get C (by decide) rfl rfl 13 (by decide) rfl wf_X5_44 dX5_endOf_87 ?_
                  refine sd_iload C dX5_endOf_90 0 rfl ?_
                  refine sd_iconst C dX5_endOf_92 (by decide) (fun k92 ek92 => ?_)
                  refine sd_isub C dX5_endOf_93 (by omega) (fun z93 ez93 => ?_)
                  refine sd_iald C (by decide) rfl (a + (i - 1)) ⟨by omega, by omega⟩ dX5_endOf_94 ?_
                  refine sd_iald C (by decide) rfl (l9.getD (a + (i - 1)) 0) ⟨by omega, by omega⟩ dX5_endOf_95 ?_
                  refine sd_istore (lv' := [(5, .int (υ 79 (l9.getD (a + (i - 1)) 0))), (4, .int w4), (0, .ref (ad 76)), (1, .int x1), (2, .int x2), (3, .int x3)]) C dX5_endOf_96 (by decide) rfl ?_
                  refine sd_aload_n C dX5_endOf_98 2 rfl rfl ?_
                  refine sd_get C (by decide) rfl rfl 18 (by decide) rfl wf_X5_50 dX5_endOf_99 ?_
                  refine sd_iload C dX5_endOf_102 0 rfl ?_
                  refine sd_dup2 C dX5_endOf_104 rfl rfl ?_
                  refine sd_iald C (by decide) rfl ((β 3 (l9.getD (a + (i - 1)) 0)).toNat) ⟨by omega, by omega⟩ dX5_endOf_105 ?_
                  refine sd_iconst C dX5_endOf_106 (by decide) (fun k106 ek106 => ?_)
                  refine sd_iadd C dX5_endOf_107 (by omega) (fun z107 ez107 => ?_)
                  refine sd_iast C (by decide) (fun _ => rfl) ((β 3 (l9.getD (a + (i - 1)) 0)).toNat) ⟨by omega, by omega⟩ dX5_endOf_108 (fun s108 es108 => ?_)
                  have f1 : s108 76 19 = υ 76 19 := by rw [es108, sd_st_ne (by decide)]
                  have f2 : (s108 76 19).toInt = (fz_g (fun j => β 11 (4 * f + j)) (fun i => β 3 (l9.getD (a + i) 0)) (k - 2) (i - 2) : Int) := by rw [f1]; exact hmd
                  refine sd_aload_n C dX5_endOf_109 2 rfl rfl ?_
                  refine sd_dup C dX5_endOf_110 rfl ?_
                  refine sd_get C (by decide) rfl rfl 19 (by decide) rfl wf_X5_140 dX5_endOf_111 ?_
                  refine sd_aload_n C dX5_endOf_114 2 rfl rfl ?_
                  refine sd_get C (by decide) rfl rfl 19 (by decide) rfl wf_X5_140 dX5_endOf_115 ?_
                  refine sd_iload_n C dX5_endOf_118 4 rfl rfl ?_
                  refine sd_iconst C dX5_endOf_119 (by decide) (fun k119 ek119 => ?_)
                  refine sd_isub C dX5_endOf_120 (by omega) (fun z120 ez120 => ?_)
                  refine sd_icmp_ge C 148 dX5_endOf_121 (by decide) (fun c121 => ?_) (fun c121 => ?_)
                  · refine sd_iconst C dX5_endOf_148 (by decide) (fun k148 ek148 => ?_)
                    refine sd_iadd C dX5_endOf_149 (by omega) (fun z149 ez149 => ?_)
                    have hgs := fz_g_succ (fun j => β 11 (4 * f + j)) (fun i => β 3 (l9.getD (a + i) 0)) (k - 2) (i - 2) (i - 1) (by omega)
                    refine sd_put C (ty := .int) (by decide) rfl rfl 19 (by decide) rfl (by decide +kernel) rfl rfl (Nat.le_of_ble_eq_true rfl) (fun _ => rfl) wf_X5_140 dX5_endOf_150 (fun s150 es150 => ?_)
                    have hq1 : ∀ s : Nat, s < 8 → (s150 90 s).toInt = (fz_cnt (fun i => β 3 (l9.getD (a + i) 0)) (s : Int) (i - 1) : Int) := by
                      intro s hs
                      rw [es150, sd_st_ne (by decide), es108]
                      have hc := fz_cnt_succ (fun i => β 3 (l9.getD (a + i) 0)) (s : Int) (i - 2) (i - 1) (by omega)
                      by_cases e : s = (β 3 (l9.getD (a + (i - 1)) 0)).toNat
                      · rw [e, sd_st_at, ez107]
                        rw [e, if_pos (by show β 3 (l9.getD (a + (i - 1)) 0) = _; omega)] at hc
                        omega
                      · rw [sd_st_nk e, hbt s hs]
                        rw [if_neg (by show ¬ β 3 (l9.getD (a + (i - 1)) 0) = _; omega)] at hc
                        omega
                    have hq2 : (s150 76 19).toInt = (fz_g (fun j => β 11 (4 * f + j)) (fun i => β 3 (l9.getD (a + i) 0)) (k - 2) (i - 1) : Int) := by
                      rw [es150, sd_st_at, ez149]
                      first
                        | (rw [if_pos (by show _ ∧ β 3 (l9.getD (a + (i - 1)) 0) = β 11 (4 * f + (_ + 1)); refine ⟨by omega, ?_⟩; rw [show 4 * f + (fz_g (fun j => β 11 (4 * f + j)) (fun i => β 3 (l9.getD (a + i) 0)) (k - 2) (i - 2) + 1) = 4 * f + 1 + fz_g (fun j => β 11 (4 * f + j)) (fun i => β 3 (l9.getD (a + i) 0)) (k - 2) (i - 2) by omega]; omega)] at hgs; omega)
                        | (rw [if_neg (by show ¬ (_ ∧ β 3 (l9.getD (a + (i - 1)) 0) = β 11 (4 * f + (_ + 1))); rintro ⟨w1, w2⟩; omega)] at hgs; omega)
                        | (rw [if_neg (by show ¬ (_ ∧ β 3 (l9.getD (a + (i - 1)) 0) = β 11 (4 * f + (_ + 1))); rintro ⟨w1, w2⟩; rw [show 4 * f + (fz_g (fun j => β 11 (4 * f + j)) (fun i => β 3 (l9.getD (a + i) 0)) (k - 2) (i - 2) + 1) = 4 * f + 1 + fz_g (fun j => β 11 (4 * f + j)) (fun i => β 3 (l9.getD (a + i) 0)) (k - 2) (i - 2) by omega] at w2; omega)] at hgs; omega)
                    exact sd_lv (key153 s150 (by omega) (fW_succ hwi (by omega) (by omega)) hq1 hq2 (by rw [es150, es108]; exact (fsu.st (by omega)).st (by omega))) [1, 2, 3, 4, 5] rfl
                  · have u1 := hMt.2.2.2.2.2 (4 * f + 1 + fz_g (fun j => β 11 (4 * f + j)) (fun i => β 3 (l9.getD (a + i) 0)) (k - 2) (i - 2)) (by omega)
                    have u2 : s108 87 (4 * f + 1 + fz_g (fun j => β 11 (4 * f + j)) (fun i => β 3 (l9.getD (a + i) 0)) (k - 2) (i - 2)) = υ 87 (4 * f + 1 + fz_g (fun j => β 11 (4 * f + j)) (fun i => β 3 (l9.getD (a + i) 0)) (k - 2) (i - 2)) := by rw [es108, sd_st_ne (by decide)]
                    rw [← u2] at u1
                    refine sd_iload C dX5_endOf_124 0 rfl ?_
                    refine sd_aload_n C dX5_endOf_126 2 rfl rfl ?_
                    refine sd_get C (by decide) rfl rfl 12 (by decide) rfl wf_X5_41 dX5_endOf_127 ?_
                    refine sd_iconst C dX5_endOf_130 (by decide) (fun k130 ek130 => ?_)
                    refine sd_iload_n C dX5_endOf_131 3 rfl rfl ?_
                    refine sd_imul C dX5_endOf_132 (by rw [ek130]; omega) (fun z132 ez132 => ?_)
                    rw [ek130] at ez132
                    refine sd_iconst C dX5_endOf_133 (by decide) (fun k133 ek133 => ?_)
                    refine sd_iadd C dX5_endOf_134 (by omega) (fun z134 ez134 => ?_)
                    refine sd_aload_n C dX5_endOf_135 2 rfl rfl ?_
                    refine sd_get C (by decide) rfl rfl 19 (by decide) rfl wf_X5_140 dX5_endOf_136 ?_
                    refine sd_iadd C dX5_endOf_139 (by omega) (fun z139 ez139 => ?_)
                    refine sd_iald C (by decide) rfl (4 * f + 1 + fz_g (fun j => β 11 (4 * f + j)) (fun i => β 3 (l9.getD (a + i) 0)) (k - 2) (i - 2)) ⟨by omega, by omega⟩ dX5_endOf_140 ?_
                    refine sd_icmp_ne C 148 dX5_endOf_141 (by decide) (fun c141 => ?_) (fun c141 => ?_)
                    · refine sd_iconst C dX5_endOf_148 (by decide) (fun k148 ek148 => ?_)
                      refine sd_iadd C dX5_endOf_149 (by omega) (fun z149 ez149 => ?_)
                      have hgs := fz_g_succ (fun j => β 11 (4 * f + j)) (fun i => β 3 (l9.getD (a + i) 0)) (k - 2) (i - 2) (i - 1) (by omega)
                      refine sd_put C (ty := .int) (by decide) rfl rfl 19 (by decide) rfl (by decide +kernel) rfl rfl (Nat.le_of_ble_eq_true rfl) (fun _ => rfl) wf_X5_140 dX5_endOf_150 (fun s150 es150 => ?_)
                      have hq1 : ∀ s : Nat, s < 8 → (s150 90 s).toInt = (fz_cnt (fun i => β 3 (l9.getD (a + i) 0)) (s : Int) (i - 1) : Int) := by
                        intro s hs
                        rw [es150, sd_st_ne (by decide), es108]
                        have hc := fz_cnt_succ (fun i => β 3 (l9.getD (a + i) 0)) (s : Int) (i - 2) (i - 1) (by omega)
                        by_cases e : s = (β 3 (l9.getD (a + (i - 1)) 0)).toNat
                        · rw [e, sd_st_at, ez107]
                          rw [e, if_pos (by show β 3 (l9.getD (a + (i - 1)) 0) = _; omega)] at hc
                          omega
                        · rw [sd_st_nk e, hbt s hs]
                          rw [if_neg (by show ¬ β 3 (l9.getD (a + (i - 1)) 0) = _; omega)] at hc
                          omega
                      have hq2 : (s150 76 19).toInt = (fz_g (fun j => β 11 (4 * f + j)) (fun i => β 3 (l9.getD (a + i) 0)) (k - 2) (i - 1) : Int) := by
                        rw [es150, sd_st_at, ez149]
                        first
                          | (rw [if_pos (by show _ ∧ β 3 (l9.getD (a + (i - 1)) 0) = β 11 (4 * f + (_ + 1)); refine ⟨by omega, ?_⟩; rw [show 4 * f + (fz_g (fun j => β 11 (4 * f + j)) (fun i => β 3 (l9.getD (a + i) 0)) (k - 2) (i - 2) + 1) = 4 * f + 1 + fz_g (fun j => β 11 (4 * f + j)) (fun i => β 3 (l9.getD (a + i) 0)) (k - 2) (i - 2) by omega]; omega)] at hgs; omega)
                          | (rw [if_neg (by show ¬ (_ ∧ β 3 (l9.getD (a + (i - 1)) 0) = β 11 (4 * f + (_ + 1))); rintro ⟨w1, w2⟩; omega)] at hgs; omega)
                          | (rw [if_neg (by show ¬ (_ ∧ β 3 (l9.getD (a + (i - 1)) 0) = β 11 (4 * f + (_ + 1))); rintro ⟨w1, w2⟩; rw [show 4 * f + (fz_g (fun j => β 11 (4 * f + j)) (fun i => β 3 (l9.getD (a + i) 0)) (k - 2) (i - 2) + 1) = 4 * f + 1 + fz_g (fun j => β 11 (4 * f + j)) (fun i => β 3 (l9.getD (a + i) 0)) (k - 2) (i - 2) by omega] at w2; omega)] at hgs; omega)
                      exact sd_lv (key153 s150 (by omega) (fW_succ hwi (by omega) (by omega)) hq1 hq2 (by rw [es150, es108]; exact (fsu.st (by omega)).st (by omega))) [1, 2, 3, 4, 5] rfl
                    · refine sd_iconst C dX5_endOf_144 (by decide) (fun k144 ek144 => ?_)
                      refine sd_goto C 149 dX5_endOf_145 (by decide) ?_
                      refine sd_iadd C dX5_endOf_149 (by omega) (fun z149 ez149 => ?_)
                      have hgs := fz_g_succ (fun j => β 11 (4 * f + j)) (fun i => β 3 (l9.getD (a + i) 0)) (k - 2) (i - 2) (i - 1) (by omega)
                      refine sd_put C (ty := .int) (by decide) rfl rfl 19 (by decide) rfl (by decide +kernel) rfl rfl (Nat.le_of_ble_eq_true rfl) (fun _ => rfl) wf_X5_140 dX5_endOf_150 (fun s150 es150 => ?_)
                      have hq1 : ∀ s : Nat, s < 8 → (s150 90 s).toInt = (fz_cnt (fun i => β 3 (l9.getD (a + i) 0)) (s : Int) (i - 1) : Int) := by
                        intro s hs
                        rw [es150, sd_st_ne (by decide), es108]
                        have hc := fz_cnt_succ (fun i => β 3 (l9.getD (a + i) 0)) (s : Int) (i - 2) (i - 1) (by omega)
                        by_cases e : s = (β 3 (l9.getD (a + (i - 1)) 0)).toNat
                        · rw [e, sd_st_at, ez107]
                          rw [e, if_pos (by show β 3 (l9.getD (a + (i - 1)) 0) = _; omega)] at hc
                          omega
                        · rw [sd_st_nk e, hbt s hs]
                          rw [if_neg (by show ¬ β 3 (l9.getD (a + (i - 1)) 0) = _; omega)] at hc
                          omega
                      have hq2 : (s150 76 19).toInt = (fz_g (fun j => β 11 (4 * f + j)) (fun i => β 3 (l9.getD (a + i) 0)) (k - 2) (i - 1) : Int) := by
                        rw [es150, sd_st_at, ez149]
                        first
                          | (rw [if_pos (by show _ ∧ β 3 (l9.getD (a + (i - 1)) 0) = β 11 (4 * f + (_ + 1)); refine ⟨by omega, ?_⟩; rw [show 4 * f + (fz_g (fun j => β 11 (4 * f + j)) (fun i => β 3 (l9.getD (a + i) 0)) (k - 2) (i - 2) + 1) = 4 * f + 1 + fz_g (fun j => β 11 (4 * f + j)) (fun i => β 3 (l9.getD (a + i) 0)) (k - 2) (i - 2) by omega]; omega)] at hgs; omega)
                          | (rw [if_neg (by show ¬ (_ ∧ β 3 (l9.getD (a + (i - 1)) 0) = β 11 (4 * f + (_ + 1))); rintro ⟨w1, w2⟩; omega)] at hgs; omega)
                          | (rw [if_neg (by show ¬ (_ ∧ β 3 (l9.getD (a + (i - 1)) 0) = β 11 (4 * f + (_ + 1))); rintro ⟨w1, w2⟩; rw [show 4 * f + (fz_g (fun j => β 11 (4 * f + j)) (fun i => β 3 (l9.getD (a + i) 0)) (k - 2) (i - 2) + 1) = 4 * f + 1 + fz_g (fun j => β 11 (4 * f + j)) (fun i => β 3 (l9.getD (a + i) 0)) (k - 2) (i - 2) by omega] at w2; omega)] at hgs; omega)
                      exact sd_lv (key153 s150 (by omega) (fW_succ hwi (by omega) (by omega)) hq1 hq2 (by rw [es150, es108]; exact (fsu.st (by omega)).st (by omega))) [1, 2, 3, 4, 5] rfl
        exact key32 _ x3 0 s26 (by omega) (by omega) (fun s hs => by rw [es26, sd_st_ne (by decide)]; exact hzs s (by omega)) (by rw [es26, sd_st_at]; exact ek25) (fun i h => by omega) (fun i h => by omega) (by rw [es26]; exact fst.st (by omega)) (Nat.lt_succ_self _)
      · refine sd_aload_n C dX5_endOf_10 1 rfl rfl ?_
        refine sd_get C (by decide) rfl rfl 18 (by decide) rfl wf_X5_50 dX5_endOf_11 ?_
        refine sd_iload C dX5_endOf_14 0 rfl ?_
        refine sd_iconst C dX5_endOf_16 (by decide) (fun k16 ek16 => ?_)
        refine sd_iast C (by decide) (fun _ => rfl) (t) ⟨by omega, by omega⟩ dX5_endOf_17 (fun s17 es17 => ?_)
        refine sd_iinc C dX5_endOf_18 0 rfl (by decide) (by decide) (by omega) (fun zz => [(4, .int zz), (0, .ref (ad 76)), (1, .int x1), (2, .int x2), (3, .int x3)]) (fun _ => rfl) (fun u18 eu18 => ?_)
        refine sd_goto C 3 dX5_endOf_21 (by decide) ?_
        exact ih3 u18 (t + 1) s17 (by omega) (by omega) (fun s h => by
              by_cases e : s = t
              · subst e; rw [es17, sd_st_at]; exact ek16
              · rw [es17, sd_st_nk e]; exact hzs s (by omega)) (by rw [es17]; exact fst.st (by omega)) (by omega)
  exact key3 _ k0 0 σ (by omega) (by omega) (fun s h => by omega) (sd_fe.rf σ) (Nat.lt_succ_self _)

set_option maxRecDepth 20000 in
set_option maxHeartbeats 4000000 in
theorem c_X5_findWays (l : Launch) (D : va_G) (ad : Nat → Nat) (ca : Nat → ClassId) (T : Nat → Nat) (σ : sd_Mem) (β : sp_B) (l9 : List Nat) (hW : sd_MW σ β l9) (f : Nat) (hf : f < 6) (x1 : Int32) (hx1 : x1.toInt = (f : Int)) : sd_Cv l yX5_findWays cX5_findWays 6 3 D ad ca T σ [.ref (ad 76), .int x1] (fun σ' => (σ' 76 22).toInt = ((fN β f l9).length : Int) ∧ fP σ' 91 92 (fN β f l9) ∧ sd_fs σ σ') := by
  refine sd_ent_v (own := RX5) (by decide) rfl (Nat.le_of_ble_eq_true rfl) (fun X C hret => ?_)
  show sd_Wd X 6 D ad ca σ [(0, .ref (ad 76)), (1, .int x1)] 0 []
  obtain ⟨hM, hG, hz, hrow, hl9, hlt⟩ := id hW
  have tg := hG.2.2.2.2.1 f hf
  refine sd_aload_n C dX5_findWays_0 0 rfl rfl ?_
  refine sd_iconst C dX5_findWays_1 (by decide) (fun k1 ek1 => ?_)
  refine sd_put C (ty := .int) (by decide) rfl rfl 22 (by decide) rfl (by decide +kernel) rfl rfl (Nat.le_of_ble_eq_true rfl) (fun _ => rfl) wf_X5_150 dX5_findWays_2 (fun s2 es2 => ?_)
  have fs2 : sd_fs σ s2 := by rw [es2]; exact (sd_fs.rf σ).st (by omega)
  have hM2 := sd_MR_fr fs2.keep hM
  have hk2 := (hM2.2.2.2.2.1 f hf).2.2.2
  refine sd_aload_n C dX5_findWays_5 0 rfl rfl ?_
  refine sd_get C (by decide) rfl rfl 11 (by decide) rfl wf_X5_38 dX5_findWays_6 ?_
  refine sd_iload_n C dX5_findWays_9 1 rfl rfl ?_
  refine sd_iald C (by decide) rfl (f) ⟨by omega, by omega⟩ dX5_findWays_10 ?_
  refine sd_istore_n (lv' := [(2, .int (s2 86 (f))), (0, .ref (ad 76)), (1, .int x1)]) C dX5_findWays_11 rfl (by decide) rfl ?_
  refine sd_iconst C dX5_findWays_12 (by decide) (fun k12 ek12 => ?_)
  refine sd_istore_n (lv' := [(3, .int k12), (2, .int (s2 86 (f))), (0, .ref (ad 76)), (1, .int x1)]) C dX5_findWays_13 rfl (by decide) rfl ?_
  have key14 : ∀ (fu14 : Nat) (y3 : Int32) (j : Nat) (n : Nat) (τ : sd_Mem), (y3.toInt = (j : Int)) → (j ≤ l9.length) → (n = (fw β f l9 j).length) → ((τ 76 22).toInt = (n : Int)) → (sd_fs σ τ) → (fP τ 91 92 (fw β f l9 j)) → (l9.length - j < fu14) → sd_Wd X 6 D ad ca τ [(3, .int y3), (2, .int (s2 86 (f))), (0, .ref (ad 76)), (1, .int x1)] 14 [] := by
    intro fu14
    induction fu14 with
    | zero => intro y3 j n τ h3 hj hn hn2 fst hP9 hm14; exact absurd hm14 (Nat.not_lt_zero _)
    | succ fu14 ih14 =>
      intro y3 j n τ h3 hj hn hn2 fst hP9 hm14
      have hWt := sd_MW_fs fst hW
      have hMt := hWt.1
      have hzt := hWt.2.2.1
      have hwf := (hMt.2.2.2.2.1 f hf).2.1
      have hwl := fw_len (β := β) (f := f) (l := l9) j
      have key98 : ∀ (w5 : Int32) (w4 : Int32) (ω : sd_Mem), (j < l9.length) → (w5.toInt < 0 → fw β f l9 (j + 1) = fw β f l9 j) → (0 ≤ w5.toInt → ∃ ee : Nat, w5.toInt = (j : Int) + (ee : Int) ∧ fMay β f l9 (fw β f l9 j) j = true ∧ fE β f l9 (β 7 f).toNat j = some ee) → ((ω 76 22).toInt = (n : Int)) → (sd_fs σ ω) → (fP ω 91 92 (fw β f l9 j)) → sd_Wd X 6 D ad ca ω [(4, .int w4), (3, .int y3), (2, .int (s2 86 (f))), (0, .ref (ad 76)), (1, .int x1)] 98 [.int w5] := by
          intro w5 w4 ω hjl hwn hwy ho2 fso hPo
          refine sd_istore (lv' := [(5, .int w5), (4, .int w4), (3, .int y3), (2, .int (s2 86 (f))), (0, .ref (ad 76)), (1, .int x1)]) C dX5_findWays_98 (by decide) rfl ?_
          refine sd_iload C dX5_findWays_100 0 rfl ?_
          refine sd_if_lt C 136 dX5_findWays_102 (by decide) (fun c102 => ?_) (fun c102 => ?_)
          · refine sd_iinc C dX5_findWays_136 2 rfl (by decide) (by decide) (by omega) (fun zz => [(3, .int zz), (5, .int w5), (4, .int w4), (2, .int (s2 86 (f))), (0, .ref (ad 76)), (1, .int x1)]) (fun _ => rfl) (fun u136 eu136 => ?_)
            refine sd_goto C 14 dX5_findWays_139 (by decide) ?_
            exact sd_lv (ih14 u136 (j + 1) n ω (by omega) (by omega) (by rw [hwn (by omega)]; exact hn) ho2 fso (by rw [hwn (by omega)]; exact hPo) (by omega)) [0, 3, 4, 5] rfl
          · refine sd_aload_n C dX5_findWays_105 4 rfl rfl ?_
            refine sd_get C (by decide) rfl rfl 20 (by decide) rfl wf_X5_53 dX5_findWays_106 ?_
            refine sd_aload_n C dX5_findWays_109 4 rfl rfl ?_
            refine sd_get C (by decide) rfl rfl 22 (by decide) rfl wf_X5_150 dX5_findWays_110 ?_
            refine sd_iload_n C dX5_findWays_113 2 rfl rfl ?_
            refine sd_iast C (by decide) (fun _ => rfl) (n) ⟨by omega, by omega⟩ dX5_findWays_114 (fun s114 es114 => ?_)
            have f114 : s114 76 22 = ω 76 22 := by rw [es114, sd_st_ne (by decide)]
            refine sd_aload_n C dX5_findWays_115 4 rfl rfl ?_
            refine sd_get C (by decide) rfl rfl 21 (by decide) rfl wf_X5_56 dX5_findWays_116 ?_
            refine sd_aload_n C dX5_findWays_119 4 rfl rfl ?_
            refine sd_get C (by decide) rfl rfl 22 (by decide) rfl wf_X5_150 dX5_findWays_120 ?_
            refine sd_iload C dX5_findWays_123 0 rfl ?_
            refine sd_iast C (by decide) (fun _ => rfl) (n) ⟨by rw [show s114 76 22 = ω 76 22 by rw [es114, sd_st_ne (by decide)]]; omega, by omega⟩ dX5_findWays_125 (fun s125 es125 => ?_)
            have f125 : s125 76 22 = ω 76 22 := by rw [es125, sd_st_ne (by decide)]; exact f114
            refine sd_aload_n C dX5_findWays_126 4 rfl rfl ?_
            refine sd_dup C dX5_findWays_127 rfl ?_
            refine sd_get C (by decide) rfl rfl 22 (by decide) rfl wf_X5_150 dX5_findWays_128 ?_
            refine sd_iconst C dX5_findWays_131 (by decide) (fun k131 ek131 => ?_)
            refine sd_iadd C dX5_findWays_132 (by rw [show s125 76 22 = ω 76 22 by rw [es125, sd_st_ne (by decide), es114, sd_st_ne (by decide)]]; omega) (fun z132 ez132 => ?_)
            refine sd_put C (ty := .int) (by decide) rfl rfl 22 (by decide) rfl (by decide +kernel) rfl rfl (Nat.le_of_ble_eq_true rfl) (fun _ => rfl) wf_X5_150 dX5_findWays_133 (fun s133 es133 => ?_)
            refine sd_iinc C dX5_findWays_136 2 rfl (by decide) (by decide) (by omega) (fun zz => [(3, .int zz), (5, .int w5), (4, .int w4), (2, .int (s2 86 (f))), (0, .ref (ad 76)), (1, .int x1)]) (fun _ => rfl) (fun u136 eu136 => ?_)
            refine sd_goto C 14 dX5_findWays_139 (by decide) ?_
            obtain ⟨ee, w1, w2, w3⟩ := hwy (by omega)
            have hyes := fw_yes w2 w3
            have hPu : fP s133 91 92 (fw β f l9 j ++ [(j, j + ee)]) := by
              refine fP_app (σ := ω) hPo ?_ ?_ (fun i hi => ?_)
              · rw [← hn, es133, sd_st_ne (by decide), es125, sd_st_ne (by decide), es114, sd_st_at]; exact h3
              · rw [← hn, es133, sd_st_ne (by decide), es125, sd_st_at, w1]; show (j : Int) + (ee : Int) = ((j + ee : Nat) : Int); omega
              · exact ⟨by rw [es133, sd_st_ne (by decide), es125, sd_st_ne (by decide), es114, sd_st_nk (by omega)], by rw [es133, sd_st_ne (by decide), es125, sd_st_nk (by omega), es114, sd_st_ne (by decide)]⟩
            exact sd_lv (ih14 u136 (j + 1) (n + 1) s133 (by omega) (by omega) (by rw [hyes, List.length_append]; simp; exact hn) (by rw [es133, sd_st_at, ez132, f125]; omega) (by rw [es133, es125, es114]; exact (((fso).st (by omega)).st (by omega)).st (by omega)) (by rw [hyes]; exact hPu) (by omega)) [0, 3, 4, 5] rfl
      refine sd_iload_n C dX5_findWays_14 0 rfl rfl ?_
      refine sd_aload_n C dX5_findWays_15 2 rfl rfl ?_
      refine sd_get C (by decide) rfl rfl 15 (by decide) rfl wf_X5_86 dX5_findWays_16 ?_
      refine sd_icmp_ge C 142 dX5_findWays_19 (by decide) (fun c19 => ?_) (fun c19 => ?_)
      · exact hret _ _ _ dX5_findWays_142 (by
            have ew : fw β f l9 l9.length = fw β f l9 j := by
              first
                | rw [show l9.length = j by omega]
                | (rw [fw_sz0 (by omega) l9.length, fw_sz0 (by omega) j])
            unfold fN
            rw [ew]
            exact ⟨by omega, hP9, fst⟩)
      · refine sd_iload_n C dX5_findWays_22 1 rfl rfl ?_
        refine sd_if_le C 142 dX5_findWays_23 (by decide) (fun c23 => ?_) (fun c23 => ?_)
        · exact hret _ _ _ dX5_findWays_142 (by
              have ew : fw β f l9 l9.length = fw β f l9 j := by
                first
                  | rw [show l9.length = j by omega]
                  | (rw [fw_sz0 (by omega) l9.length, fw_sz0 (by omega) j])
              unfold fN
              rw [ew]
              exact ⟨by omega, hP9, fst⟩)
        · refine sd_aload_n C dX5_findWays_26 2 rfl rfl ?_
          refine sd_get C (by decide) rfl rfl 22 (by decide) rfl wf_X5_150 dX5_findWays_27 ?_
          refine sd_if_eq C 75 dX5_findWays_30 (by decide) (fun c30 => ?_) (fun c30 => ?_)
          · refine sd_iconst C dX5_findWays_75 (by decide) (fun k75 ek75 => ?_)
            refine sd_goto C 80 dX5_findWays_76 (by decide) ?_
            refine sd_istore (lv' := [(4, .int k75), (3, .int y3), (2, .int (s2 86 (f))), (0, .ref (ad 76)), (1, .int x1)]) C dX5_findWays_80 (by decide) rfl ?_
            refine sd_iload C dX5_findWays_82 0 rfl ?_
            refine sd_if_eq C 97 dX5_findWays_84 (by decide) (fun c84 => ?_) (fun c84 => ?_)
            · exact absurd c84 (by omega)
            · refine sd_aload_n C dX5_findWays_87 3 rfl rfl ?_
              refine sd_iload_n C dX5_findWays_88 4 rfl rfl ?_
              refine sd_iload_n C dX5_findWays_89 2 rfl rfl ?_
              refine sd_iload_n C dX5_findWays_90 1 rfl rfl ?_
              have hmy : fMay β f l9 (fw β f l9 j) j = true := by
                first
                  | exact fMay_nil (by omega)
                  | exact (fMay_last hlq).trans (decide_eq_true (by omega))
              refine sd_callVi C (c_X5_endOf l D ad ca T τ β l9 hWt f hf (β 7 f).toNat j (by omega) (Nat.le_refl _) (by omega) x1 (s2 86 (f)) y3 hx1 (by omega) h3) mv_X5_endOf wm_X5_153 (by decide) rfl rfl (by decide) rfl rfl (Nat.le_of_ble_eq_true rfl) dX5_findWays_91 (fun r91 s91 h91 => ?_)
              try dsimp only at h91
              obtain ⟨e1, e2⟩ := h91
              rw [fEj_i] at e1
              refine sd_goto C 98 dX5_findWays_94 (by decide) ?_
              exact key98 r91 k75 s91 (by omega) (fun w => fw_no (Or.inr (fEi_neg e1 w))) (fun w => fEi_pos e1 w hmy) (by rw [e2 76 22 (by omega) (by omega)]; exact hn2) (fst.tr e2.fs) (fun i hi => by rw [e2 91 _ (by omega) (by omega), e2 92 _ (by omega) (by omega)]; exact hP9 i hi)
          · have t5 := hWt.at (j := j) (by omega)
            obtain ⟨lq, hlq⟩ := fw_last (β := β) (f := f) (l := l9) (j := j) (by omega)
            have t6 := hP9 ((fw β f l9 j).length - 1) (by omega)
            have t7 := fw_lastm (by omega) hlq
            have t8 := hWt.at (j := lq.1) (by omega)
            refine sd_aload_n C dX5_findWays_33 2 rfl rfl ?_
            refine sd_get C (by decide) rfl rfl 1 (by decide) rfl wf_X5_7 dX5_findWays_34 ?_
            refine sd_aload_n C dX5_findWays_37 2 rfl rfl ?_
            refine sd_get C (by decide) rfl rfl 13 (by decide) rfl wf_X5_44 dX5_findWays_38 ?_
            refine sd_iload_n C dX5_findWays_41 0 rfl rfl ?_
            refine sd_iald C (by decide) rfl (j) ⟨by omega, by omega⟩ dX5_findWays_42 ?_
            refine sd_iald C (by decide) rfl (l9.getD j 0) ⟨by omega, by omega⟩ dX5_findWays_43 ?_
            refine sd_aload_n C dX5_findWays_44 2 rfl rfl ?_
            refine sd_get C (by decide) rfl rfl 1 (by decide) rfl wf_X5_7 dX5_findWays_45 ?_
            refine sd_aload_n C dX5_findWays_48 2 rfl rfl ?_
            refine sd_get C (by decide) rfl rfl 13 (by decide) rfl wf_X5_44 dX5_findWays_49 ?_
            refine sd_aload_n C dX5_findWays_52 2 rfl rfl ?_
            refine sd_get C (by decide) rfl rfl 20 (by decide) rfl wf_X5_53 dX5_findWays_53 ?_
            refine sd_aload_n C dX5_findWays_56 2 rfl rfl ?_
            refine sd_get C (by decide) rfl rfl 22 (by decide) rfl wf_X5_150 dX5_findWays_57 ?_
            refine sd_iconst C dX5_findWays_60 (by decide) (fun k60 ek60 => ?_)
            refine sd_isub C dX5_findWays_61 (by omega) (fun z61 ez61 => ?_)
            refine sd_iald C (by decide) rfl ((fw β f l9 j).length - 1) ⟨by omega, by omega⟩ dX5_findWays_62 ?_
            refine sd_iald C (by decide) rfl (lq.1) ⟨by rw [t6.1, t7.2.1], by omega⟩ dX5_findWays_63 ?_
            refine sd_iald C (by decide) rfl (l9.getD lq.1 0) ⟨by omega, by omega⟩ dX5_findWays_64 ?_
            refine sd_isub C dX5_findWays_65 (by omega) (fun z65 ez65 => ?_)
            refine sd_aload_n C dX5_findWays_66 2 rfl rfl ?_
            refine sd_get C (by decide) rfl rfl 9 (by decide) rfl wf_X5_32 dX5_findWays_67 ?_
            refine sd_iload_n C dX5_findWays_70 3 rfl rfl ?_
            refine sd_iald C (by decide) rfl (f) ⟨by omega, by omega⟩ dX5_findWays_71 ?_
            refine sd_icmp_le C 79 dX5_findWays_72 (by decide) (fun c72 => ?_) (fun c72 => ?_)
            · refine sd_iconst C dX5_findWays_79 (by decide) (fun k79 ek79 => ?_)
              refine sd_istore (lv' := [(4, .int k79), (3, .int y3), (2, .int (s2 86 (f))), (0, .ref (ad 76)), (1, .int x1)]) C dX5_findWays_80 (by decide) rfl ?_
              refine sd_iload C dX5_findWays_82 0 rfl ?_
              refine sd_if_eq C 97 dX5_findWays_84 (by decide) (fun c84 => ?_) (fun c84 => ?_)
              · have hmn : fMay β f l9 (fw β f l9 j) j = false := (fMay_last hlq).trans (decide_eq_false (by omega))
                refine sd_iconst C dX5_findWays_97 (by decide) (fun k97 ek97 => ?_)
                exact key98 k97 k79 τ (by omega) (fun _ => fw_no (Or.inl hmn)) (fun w => absurd w (by omega)) hn2 fst hP9
              · exact absurd c84 (by omega)
            · refine sd_iconst C dX5_findWays_75 (by decide) (fun k75 ek75 => ?_)
              refine sd_goto C 80 dX5_findWays_76 (by decide) ?_
              refine sd_istore (lv' := [(4, .int k75), (3, .int y3), (2, .int (s2 86 (f))), (0, .ref (ad 76)), (1, .int x1)]) C dX5_findWays_80 (by decide) rfl ?_
              refine sd_iload C dX5_findWays_82 0 rfl ?_
              refine sd_if_eq C 97 dX5_findWays_84 (by decide) (fun c84 => ?_) (fun c84 => ?_)
              · exact absurd c84 (by omega)
              · refine sd_aload_n C dX5_findWays_87 3 rfl rfl ?_
                refine sd_iload_n C dX5_findWays_88 4 rfl rfl ?_
                refine sd_iload_n C dX5_findWays_89 2 rfl rfl ?_
                refine sd_iload_n C dX5_findWays_90 1 rfl rfl ?_
                have hmy : fMay β f l9 (fw β f l9 j) j = true := by
                  first
                    | exact fMay_nil (by omega)
                    | exact (fMay_last hlq).trans (decide_eq_true (by omega))
                refine sd_callVi C (c_X5_endOf l D ad ca T τ β l9 hWt f hf (β 7 f).toNat j (by omega) (Nat.le_refl _) (by omega) x1 (s2 86 (f)) y3 hx1 (by omega) h3) mv_X5_endOf wm_X5_153 (by decide) rfl rfl (by decide) rfl rfl (Nat.le_of_ble_eq_true rfl) dX5_findWays_91 (fun r91 s91 h91 => ?_)
                try dsimp only at h91
                obtain ⟨e1, e2⟩ := h91
                rw [fEj_i] at e1
                refine sd_goto C 98 dX5_findWays_94 (by decide) ?_
                exact key98 r91 k75 s91 (by omega) (fun w => fw_no (Or.inr (fEi_neg e1 w))) (fun w => fEi_pos e1 w hmy) (by rw [e2 76 22 (by omega) (by omega)]; exact hn2) (fst.tr e2.fs) (fun i hi => by rw [e2 91 _ (by omega) (by omega), e2 92 _ (by omega) (by omega)]; exact hP9 i hi)
  exact key14 _ k12 0 0 s2 (by omega) (by omega) rfl (by rw [es2, sd_st_at]; exact ek1) fs2 (fun i hi => absurd hi (Nat.not_lt_zero i)) (Nat.lt_succ_self _)

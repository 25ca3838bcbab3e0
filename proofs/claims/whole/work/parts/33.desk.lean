def sc_pi4 (k : Nat) : Nat := if k < 16 then ([15, 9, 10, 11, 12, 13, 14, 8, 6, 7, 5, 4, 3, 0, 1, 2] : List Nat).getD k 0 else if k < 40 then 74 - 2 * (k - 16) else if k < 64 then 75 - 2 * (k - 40) else if k < 70 then 26 - 2 * (k - 64) else 27 - 2 * (k - 70)
theorem sc_pi4_inj : ∀ i, i < 76 → ∀ j, j < 76 → sc_pi4 i = sc_pi4 j → i = j := by decide +kernel
theorem sc_q24 {h0 q5 v0 v1 v2 v3 v4 v5 v6 v7 v8 v9 v10 v11 v12 v13 : Nat} {ra rb fa fb : Nat → Nat} : ∀ i, i < 24 → sc_qf ra 24 i = some (([h0, q5, v0, v1, v2, v3, v4, v5, v6, v7, v8, v9, v10, v11, v12, v13, ra 0, ra 1, ra 2, ra 3, ra 4, ra 5, ra 6, ra 7, ra 8, ra 9, ra 10, ra 11, ra 12, ra 13, ra 14, ra 15, ra 16, ra 17, ra 18, ra 19, ra 20, ra 21, ra 22, ra 23, rb 0, rb 1, rb 2, rb 3, rb 4, rb 5, rb 6, rb 7, rb 8, rb 9, rb 10, rb 11, rb 12, rb 13, rb 14, rb 15, rb 16, rb 17, rb 18, rb 19, rb 20, rb 21, rb 22, rb 23, fa 0, fa 1, fa 2, fa 3, fa 4, fa 5, fb 0, fb 1, fb 2, fb 3, fb 4, fb 5] : List Nat).getD (16 + i) 0) := fun i hi => by
  rcases (show i = 0 ∨ i = 1 ∨ i = 2 ∨ i = 3 ∨ i = 4 ∨ i = 5 ∨ i = 6 ∨ i = 7 ∨ i = 8 ∨ i = 9 ∨ i = 10 ∨ i = 11 ∨ i = 12 ∨ i = 13 ∨ i = 14 ∨ i = 15 ∨ i = 16 ∨ i = 17 ∨ i = 18 ∨ i = 19 ∨ i = 20 ∨ i = 21 ∨ i = 22 ∨ i = 23 by omega) with rfl | rfl | rfl | rfl | rfl | rfl | rfl | rfl | rfl | rfl | rfl | rfl | rfl | rfl | rfl | rfl | rfl | rfl | rfl | rfl | rfl | rfl | rfl | rfl <;> rfl
theorem sc_q6 {h0 q5 v0 v1 v2 v3 v4 v5 v6 v7 v8 v9 v10 v11 v12 v13 : Nat} {ra rb fa fb : Nat → Nat} : ∀ i, i < 6 → sc_qf fa 6 i = some (([h0, q5, v0, v1, v2, v3, v4, v5, v6, v7, v8, v9, v10, v11, v12, v13, ra 0, ra 1, ra 2, ra 3, ra 4, ra 5, ra 6, ra 7, ra 8, ra 9, ra 10, ra 11, ra 12, ra 13, ra 14, ra 15, ra 16, ra 17, ra 18, ra 19, ra 20, ra 21, ra 22, ra 23, rb 0, rb 1, rb 2, rb 3, rb 4, rb 5, rb 6, rb 7, rb 8, rb 9, rb 10, rb 11, rb 12, rb 13, rb 14, rb 15, rb 16, rb 17, rb 18, rb 19, rb 20, rb 21, rb 22, rb 23, fa 0, fa 1, fa 2, fa 3, fa 4, fa 5, fb 0, fb 1, fb 2, fb 3, fb 4, fb 5] : List Nat).getD (64 + i) 0) := fun i hi => by
  rcases (show i = 0 ∨ i = 1 ∨ i = 2 ∨ i = 3 ∨ i = 4 ∨ i = 5 by omega) with rfl | rfl | rfl | rfl | rfl | rfl <;> rfl
set_option maxRecDepth 100000 in
set_option maxHeartbeats 4000000 in
theorem c_X4_init (l : Launch) (D : va_G) (ca : Nat → ClassId) (h0 : Nat) : sc_C l yX4_init cX4_init 2 { frames := 2, cells := 75, slots := 4228, locals := 33 } D ca sc_N [.ref h0] (h0, .inr (4, [.null, .null, .null, .null, .null, .null, .null, .int 0, .null])) (fun u => (List.range 76).map (fun i => (if i = 0 then h0 else u i, sd_cell (fun i => if i = 0 then h0 else u i) ca i (sd_z i)))) (sd_ty ca) := by
  refine sc_ent (own := RX4) (by decide) rfl rfl (Nat.le_of_ble_eq_true rfl) (fun X A C hI hN hret => ?_)
  show sc_Wd X A 2 D [(h0, .inr (4, [.null, .null, .null, .null, .null, .null, .null, .int 0, .null]))] 0 0 [(0, .ref h0)] 0 []
  refine sc_aload_n C dX4_init_0 0 rfl rfl ?_
  refine sc_objInit C wm_X4_1 (Nat.le_of_ble_eq_true rfl) (Nat.le_of_ble_eq_true rfl) dX4_init_1 ?_
  refine sc_aload_n C dX4_init_4 0 rfl rfl ?_
  refine sc_new C (ci := 0) (fs := [.null, .null, .null, .null, .null, .int 0]) rfl tyX0 tyX0_ok wl_X4_7 wa_X0 wn_X0 dfX0 (Nat.le_of_ble_eq_true rfl) (Nat.le_of_ble_eq_true rfl) dX4_init_5 (fun q5 => ?_)
  refine sc_dup C dX4_init_8 rfl ?_
  refine sc_callN C (np := 0) (As := []) (rest := [.ref q5, .ref h0]) (c_X0_init l D ca q5) wc_X0_init wn_X0 hN.1 wi_X0_init rfl ⟨by decide, by decide, by decide +kernel⟩ ⟨Nat.le_of_ble_eq_true rfl, Nat.le_of_ble_eq_true rfl⟩ (fun _ _ _ _ => trivial) (fun _ _ => trivial) rfl rfl (Nat.le_of_ble_eq_true rfl) (Nat.le_of_ble_eq_true rfl) (Nat.le_of_ble_eq_true rfl) dX4_init_9 (fun u9 hK9 => ?_)
  refine sc_eqw (ws' := [(q5, .inr (0, [.ref (u9 1), .ref (u9 2), .ref (u9 3), .ref (u9 4), .ref (u9 5), .int 0])), ((u9 1), .inl (ca 0, 120, .inl (fun _ => 0))), ((u9 2), .inl (ca 0, 120, .inl (fun _ => 0))), ((u9 3), .inl (ca 0, 120, .inl (fun _ => 0))), ((u9 4), .inl (ca 1, 120, .inl (fun _ => 0))), ((u9 5), .inl (ca 0, 120, .inl (fun _ => 0))), (h0, .inr (4, [.null, .null, .null, .null, .null, .null, .null, .int 0, .null]))]) rfl ?_
  refine sc_putF C hI 6 (ty := (.object RX0)) (ws' := [(q5, .inr (0, [.ref (u9 1), .ref (u9 2), .ref (u9 3), .ref (u9 4), .ref (u9 5), .int 0])), ((u9 1), .inl (ca 0, 120, .inl (fun _ => 0))), ((u9 2), .inl (ca 0, 120, .inl (fun _ => 0))), ((u9 3), .inl (ca 0, 120, .inl (fun _ => 0))), ((u9 4), .inl (ca 1, 120, .inl (fun _ => 0))), ((u9 5), .inl (ca 0, 120, .inl (fun _ => 0))), (h0, .inr (4, [.ref q5, .null, .null, .null, .null, .null, .null, .int 0, .null]))]) rfl rfl 0 (by decide) wf_X4_10 rfl rfl (by decide +kernel) rfl rfl (Nat.le_of_ble_eq_true rfl) rfl dX4_init_12 ?_
  refine sc_aload_n C dX4_init_15 0 rfl rfl ?_
  refine sc_bipush C dX4_init_16 (by decide) (fun k16 ek16 => ?_)
  refine sc_newi C 24 (by omega) (by decide) (Nat.le_of_ble_eq_true rfl) (Nat.le_of_ble_eq_true rfl) dX4_init_18 (fun q18 hK18 => ?_)
  refine sc_putF C hI 7 (ty := (.array .int)) (ws' := [(q18, .inl (ca 0, 24, .inl (fun _ => 0))), (q5, .inr (0, [.ref (u9 1), .ref (u9 2), .ref (u9 3), .ref (u9 4), .ref (u9 5), .int 0])), ((u9 1), .inl (ca 0, 120, .inl (fun _ => 0))), ((u9 2), .inl (ca 0, 120, .inl (fun _ => 0))), ((u9 3), .inl (ca 0, 120, .inl (fun _ => 0))), ((u9 4), .inl (ca 1, 120, .inl (fun _ => 0))), ((u9 5), .inl (ca 0, 120, .inl (fun _ => 0))), (h0, .inr (4, [.ref q5, .ref q18, .null, .null, .null, .null, .null, .int 0, .null]))]) rfl rfl 1 (by decide) wf_X4_16 rfl rfl (by decide +kernel) rfl rfl (Nat.le_of_ble_eq_true rfl) rfl dX4_init_20 ?_
  refine sc_aload_n C dX4_init_23 0 rfl rfl ?_
  refine sc_bipush C dX4_init_24 (by decide) (fun k24 ek24 => ?_)
  refine sc_newq C (cq := ca 3) wl_X4_20 hN.2.2.2.2 (sc_kof C).2.2.2 24 (by omega) (by decide) (Nat.le_of_ble_eq_true rfl) (Nat.le_of_ble_eq_true rfl) dX4_init_26 (fun q26 hK26 => ?_)
  refine sc_putF C hI 8 (ty := (.array (.object RX2))) (ws' := [(q26, .inl (ca 3, 24, .inr (.inr (.inr (.inr (fun _ => none)))))), (q18, .inl (ca 0, 24, .inl (fun _ => 0))), (q5, .inr (0, [.ref (u9 1), .ref (u9 2), .ref (u9 3), .ref (u9 4), .ref (u9 5), .int 0])), ((u9 1), .inl (ca 0, 120, .inl (fun _ => 0))), ((u9 2), .inl (ca 0, 120, .inl (fun _ => 0))), ((u9 3), .inl (ca 0, 120, .inl (fun _ => 0))), ((u9 4), .inl (ca 1, 120, .inl (fun _ => 0))), ((u9 5), .inl (ca 0, 120, .inl (fun _ => 0))), (h0, .inr (4, [.ref q5, .ref q18, .null, .ref q26, .null, .null, .null, .int 0, .null]))]) rfl rfl 3 (by decide) wf_X4_22 rfl rfl (by decide +kernel) rfl rfl (Nat.le_of_ble_eq_true rfl) rfl dX4_init_29 ?_
  refine sc_iconst C dX4_init_32 (by decide) (fun k32 ek32 => ?_)
  refine sc_istore_n C dX4_init_33 rfl (by decide) rfl ?_
  have hKi := hK18
  have key34 : ∀ (fu : Nat) (y1 : Int32) (k : Nat) (ra rb : Nat → Nat), (y1.toInt = (k : Int)) → (k ≤ 24) → (24 - k < fu) → sc_Wd X A 2 D ((q26, .inl (ca 3, 24, .inr (.inr (.inr (.inr (sc_qf ra k)))))) :: (q18, .inl (ca 0, 24, .inl (sc_pf sc_id k))) :: (q5, .inr (0, [.ref (u9 1), .ref (u9 2), .ref (u9 3), .ref (u9 4), .ref (u9 5), .int 0])) :: ((u9 1), .inl (ca 0, 120, .inl (fun _ => 0))) :: ((u9 2), .inl (ca 0, 120, .inl (fun _ => 0))) :: ((u9 3), .inl (ca 0, 120, .inl (fun _ => 0))) :: ((u9 4), .inl (ca 1, 120, .inl (fun _ => 0))) :: ((u9 5), .inl (ca 0, 120, .inl (fun _ => 0))) :: (h0, .inr (4, [.ref q5, .ref q18, .null, .ref q26, .null, .null, .null, .int 0, .null])) :: sc_rw ca q5 ra rb k) (8 + 2 * k) (654 + 126 * k) [(1, .int y1), (0, .ref h0)] 34 [] := by
    intro fu
    induction fu with
    | zero => intro y1 k ra rb h1 hk hm; exact absurd hm (Nat.not_lt_zero _)
    | succ fu ih =>
      intro y1 k ra rb h1 hk hm
      refine sc_iload_n C dX4_init_34 0 rfl rfl ?_
      refine sc_bipush C dX4_init_35 (by decide) (fun k35 ek35 => ?_)
      refine sc_icmp_ge C 70 dX4_init_37 (by decide) (fun c37 => ?_) (fun c37 => ?_)
      · have ek : k = 24 := by omega
        subst ek
        refine sc_aload_n C dX4_init_70 1 rfl rfl ?_
        refine sc_bipush C dX4_init_71 (by decide) (fun k71 ek71 => ?_)
        refine sc_newi C 6 (by omega) (by decide) (Nat.le_of_ble_eq_true rfl) (Nat.le_of_ble_eq_true rfl) dX4_init_73 (fun q73 hK73 => ?_)
        refine sc_putF C hI 9 (ty := (.array .int)) (ws' := ((q73, .inl (ca 0, 6, .inl (fun _ => 0))) :: (q26, .inl (ca 3, 24, .inr (.inr (.inr (.inr (sc_qf ra 24)))))) :: (q18, .inl (ca 0, 24, .inl (sc_pf sc_id 24))) :: (q5, .inr (0, [.ref (u9 1), .ref (u9 2), .ref (u9 3), .ref (u9 4), .ref (u9 5), .int 0])) :: ((u9 1), .inl (ca 0, 120, .inl (fun _ => 0))) :: ((u9 2), .inl (ca 0, 120, .inl (fun _ => 0))) :: ((u9 3), .inl (ca 0, 120, .inl (fun _ => 0))) :: ((u9 4), .inl (ca 1, 120, .inl (fun _ => 0))) :: ((u9 5), .inl (ca 0, 120, .inl (fun _ => 0))) :: (h0, .inr (4, [.ref q5, .ref q18, .ref q73, .ref q26, .null, .null, .null, .int 0, .null])) :: sc_rw ca q5 ra rb 24)) rfl rfl 2 (by decide) wf_X4_29 rfl rfl (by decide +kernel) rfl rfl (Nat.le_of_ble_eq_true rfl) rfl dX4_init_75 ?_
        refine sc_aload_n C dX4_init_78 1 rfl rfl ?_
        refine sc_get C 9 rfl rfl 2 (by decide) rfl wf_X4_29 dX4_init_79 ?_
        refine sc_iconst C dX4_init_82 (by decide) (fun k82 ek82 => ?_)
        refine sc_bipush C dX4_init_83 (by decide) (fun k83 ek83 => ?_)
        have ek83 : k83 = 30 := Int32.toInt_inj.mp (by rw [ek83]; rfl)
        subst ek83
        refine sc_iast C hKi 0 rfl 0 ⟨by omega, by decide⟩ (ws' := ((q73, .inl (ca 0, 6, .inl (upd (fun _ => 0) 0 (30)))) :: (q26, .inl (ca 3, 24, .inr (.inr (.inr (.inr (sc_qf ra 24)))))) :: (q18, .inl (ca 0, 24, .inl (sc_pf sc_id 24))) :: (q5, .inr (0, [.ref (u9 1), .ref (u9 2), .ref (u9 3), .ref (u9 4), .ref (u9 5), .int 0])) :: ((u9 1), .inl (ca 0, 120, .inl (fun _ => 0))) :: ((u9 2), .inl (ca 0, 120, .inl (fun _ => 0))) :: ((u9 3), .inl (ca 0, 120, .inl (fun _ => 0))) :: ((u9 4), .inl (ca 1, 120, .inl (fun _ => 0))) :: ((u9 5), .inl (ca 0, 120, .inl (fun _ => 0))) :: (h0, .inr (4, [.ref q5, .ref q18, .ref q73, .ref q26, .null, .null, .null, .int 0, .null])) :: sc_rw ca q5 ra rb 24)) rfl dX4_init_85 ?_
        refine sc_aload_n C dX4_init_86 1 rfl rfl ?_
        refine sc_get C 9 rfl rfl 2 (by decide) rfl wf_X4_29 dX4_init_87 ?_
        refine sc_iconst C dX4_init_90 (by decide) (fun k90 ek90 => ?_)
        refine sc_iconst C dX4_init_91 (by decide) (fun k91 ek91 => ?_)
        have ek91 : k91 = -1 := Int32.toInt_inj.mp (by rw [ek91]; rfl)
        subst ek91
        refine sc_iast C hKi 0 rfl 2 ⟨by omega, by decide⟩ (ws' := ((q73, .inl (ca 0, 6, .inl (upd (upd (fun _ => 0) 0 (30)) 2 (-1)))) :: (q26, .inl (ca 3, 24, .inr (.inr (.inr (.inr (sc_qf ra 24)))))) :: (q18, .inl (ca 0, 24, .inl (sc_pf sc_id 24))) :: (q5, .inr (0, [.ref (u9 1), .ref (u9 2), .ref (u9 3), .ref (u9 4), .ref (u9 5), .int 0])) :: ((u9 1), .inl (ca 0, 120, .inl (fun _ => 0))) :: ((u9 2), .inl (ca 0, 120, .inl (fun _ => 0))) :: ((u9 3), .inl (ca 0, 120, .inl (fun _ => 0))) :: ((u9 4), .inl (ca 1, 120, .inl (fun _ => 0))) :: ((u9 5), .inl (ca 0, 120, .inl (fun _ => 0))) :: (h0, .inr (4, [.ref q5, .ref q18, .ref q73, .ref q26, .null, .null, .null, .int 0, .null])) :: sc_rw ca q5 ra rb 24)) rfl dX4_init_92 ?_
        refine sc_aload_n C dX4_init_93 1 rfl rfl ?_
        refine sc_get C 9 rfl rfl 2 (by decide) rfl wf_X4_29 dX4_init_94 ?_
        refine sc_iconst C dX4_init_97 (by decide) (fun k97 ek97 => ?_)
        refine sc_iconst C dX4_init_98 (by decide) (fun k98 ek98 => ?_)
        have ek98 : k98 = 1 := Int32.toInt_inj.mp (by rw [ek98]; rfl)
        subst ek98
        refine sc_iast C hKi 0 rfl 4 ⟨by omega, by decide⟩ (ws' := ((q73, .inl (ca 0, 6, .inl (upd (upd (upd (fun _ => 0) 0 (30)) 2 (-1)) 4 (1)))) :: (q26, .inl (ca 3, 24, .inr (.inr (.inr (.inr (sc_qf ra 24)))))) :: (q18, .inl (ca 0, 24, .inl (sc_pf sc_id 24))) :: (q5, .inr (0, [.ref (u9 1), .ref (u9 2), .ref (u9 3), .ref (u9 4), .ref (u9 5), .int 0])) :: ((u9 1), .inl (ca 0, 120, .inl (fun _ => 0))) :: ((u9 2), .inl (ca 0, 120, .inl (fun _ => 0))) :: ((u9 3), .inl (ca 0, 120, .inl (fun _ => 0))) :: ((u9 4), .inl (ca 1, 120, .inl (fun _ => 0))) :: ((u9 5), .inl (ca 0, 120, .inl (fun _ => 0))) :: (h0, .inr (4, [.ref q5, .ref q18, .ref q73, .ref q26, .null, .null, .null, .int 0, .null])) :: sc_rw ca q5 ra rb 24)) rfl dX4_init_99 ?_
        refine sc_aload_n C dX4_init_100 1 rfl rfl ?_
        refine sc_bipush C dX4_init_101 (by decide) (fun k101 ek101 => ?_)
        refine sc_newi C 120 (by omega) (by decide) (Nat.le_of_ble_eq_true rfl) (Nat.le_of_ble_eq_true rfl) dX4_init_103 (fun q103 hK103 => ?_)
        refine sc_putF C hI 10 (ty := (.array .int)) (ws' := ((q103, .inl (ca 0, 120, .inl (fun _ => 0))) :: (q73, .inl (ca 0, 6, .inl (upd (upd (upd (fun _ => 0) 0 (30)) 2 (-1)) 4 (1)))) :: (q26, .inl (ca 3, 24, .inr (.inr (.inr (.inr (sc_qf ra 24)))))) :: (q18, .inl (ca 0, 24, .inl (sc_pf sc_id 24))) :: (q5, .inr (0, [.ref (u9 1), .ref (u9 2), .ref (u9 3), .ref (u9 4), .ref (u9 5), .int 0])) :: ((u9 1), .inl (ca 0, 120, .inl (fun _ => 0))) :: ((u9 2), .inl (ca 0, 120, .inl (fun _ => 0))) :: ((u9 3), .inl (ca 0, 120, .inl (fun _ => 0))) :: ((u9 4), .inl (ca 1, 120, .inl (fun _ => 0))) :: ((u9 5), .inl (ca 0, 120, .inl (fun _ => 0))) :: (h0, .inr (4, [.ref q5, .ref q18, .ref q73, .ref q26, .ref q103, .null, .null, .int 0, .null])) :: sc_rw ca q5 ra rb 24)) rfl rfl 4 (by decide) wf_X4_32 rfl rfl (by decide +kernel) rfl rfl (Nat.le_of_ble_eq_true rfl) rfl dX4_init_105 ?_
        refine sc_aload_n C dX4_init_108 1 rfl rfl ?_
        refine sc_bipush C dX4_init_109 (by decide) (fun k109 ek109 => ?_)
        refine sc_newi C 120 (by omega) (by decide) (Nat.le_of_ble_eq_true rfl) (Nat.le_of_ble_eq_true rfl) dX4_init_111 (fun q111 hK111 => ?_)
        refine sc_putF C hI 11 (ty := (.array .int)) (ws' := ((q111, .inl (ca 0, 120, .inl (fun _ => 0))) :: (q103, .inl (ca 0, 120, .inl (fun _ => 0))) :: (q73, .inl (ca 0, 6, .inl (upd (upd (upd (fun _ => 0) 0 (30)) 2 (-1)) 4 (1)))) :: (q26, .inl (ca 3, 24, .inr (.inr (.inr (.inr (sc_qf ra 24)))))) :: (q18, .inl (ca 0, 24, .inl (sc_pf sc_id 24))) :: (q5, .inr (0, [.ref (u9 1), .ref (u9 2), .ref (u9 3), .ref (u9 4), .ref (u9 5), .int 0])) :: ((u9 1), .inl (ca 0, 120, .inl (fun _ => 0))) :: ((u9 2), .inl (ca 0, 120, .inl (fun _ => 0))) :: ((u9 3), .inl (ca 0, 120, .inl (fun _ => 0))) :: ((u9 4), .inl (ca 1, 120, .inl (fun _ => 0))) :: ((u9 5), .inl (ca 0, 120, .inl (fun _ => 0))) :: (h0, .inr (4, [.ref q5, .ref q18, .ref q73, .ref q26, .ref q103, .ref q111, .null, .int 0, .null])) :: sc_rw ca q5 ra rb 24)) rfl rfl 5 (by decide) wf_X4_35 rfl rfl (by decide +kernel) rfl rfl (Nat.le_of_ble_eq_true rfl) rfl dX4_init_113 ?_
        refine sc_aload_n C dX4_init_116 1 rfl rfl ?_
        refine sc_bipush C dX4_init_117 (by decide) (fun k117 ek117 => ?_)
        refine sc_newq C (cq := ca 2) wl_X4_38 hN.2.2.2.1 (sc_kof C).2.2.1 6 (by omega) (by decide) (Nat.le_of_ble_eq_true rfl) (Nat.le_of_ble_eq_true rfl) dX4_init_119 (fun q119 hK119 => ?_)
        refine sc_putF C hI 12 (ty := (.array (.object RX1))) (ws' := ((q119, .inl (ca 2, 6, .inr (.inr (.inr (.inr (fun _ => none)))))) :: (q111, .inl (ca 0, 120, .inl (fun _ => 0))) :: (q103, .inl (ca 0, 120, .inl (fun _ => 0))) :: (q73, .inl (ca 0, 6, .inl (upd (upd (upd (fun _ => 0) 0 (30)) 2 (-1)) 4 (1)))) :: (q26, .inl (ca 3, 24, .inr (.inr (.inr (.inr (sc_qf ra 24)))))) :: (q18, .inl (ca 0, 24, .inl (sc_pf sc_id 24))) :: (q5, .inr (0, [.ref (u9 1), .ref (u9 2), .ref (u9 3), .ref (u9 4), .ref (u9 5), .int 0])) :: ((u9 1), .inl (ca 0, 120, .inl (fun _ => 0))) :: ((u9 2), .inl (ca 0, 120, .inl (fun _ => 0))) :: ((u9 3), .inl (ca 0, 120, .inl (fun _ => 0))) :: ((u9 4), .inl (ca 1, 120, .inl (fun _ => 0))) :: ((u9 5), .inl (ca 0, 120, .inl (fun _ => 0))) :: (h0, .inr (4, [.ref q5, .ref q18, .ref q73, .ref q26, .ref q103, .ref q111, .ref q119, .int 0, .null])) :: sc_rw ca q5 ra rb 24)) rfl rfl 6 (by decide) wf_X4_40 rfl rfl (by decide +kernel) rfl rfl (Nat.le_of_ble_eq_true rfl) rfl dX4_init_122 ?_
        refine sc_iconst C dX4_init_125 (by decide) (fun k125 ek125 => ?_)
        refine sc_istore_n C dX4_init_126 rfl (by decide) rfl ?_
        have key127 : ∀ (fv : Nat) (y2 : Int32) (j : Nat) (fa fb : Nat → Nat), (y2.toInt = (j : Int)) → (j ≤ 6) → (6 - j < fv) → sc_Wd X A 2 D ((q119, .inl (ca 2, 6, .inr (.inr (.inr (.inr (sc_qf fa j)))))) :: (q111, .inl (ca 0, 120, .inl (fun _ => 0))) :: (q103, .inl (ca 0, 120, .inl (fun _ => 0))) :: (q73, .inl (ca 0, 6, .inl (upd (upd (upd (fun _ => 0) 0 (30)) 2 (-1)) 4 (1)))) :: (q26, .inl (ca 3, 24, .inr (.inr (.inr (.inr (sc_qf ra 24)))))) :: (q18, .inl (ca 0, 24, .inl (sc_pf sc_id 24))) :: (q5, .inr (0, [.ref (u9 1), .ref (u9 2), .ref (u9 3), .ref (u9 4), .ref (u9 5), .int 0])) :: ((u9 1), .inl (ca 0, 120, .inl (fun _ => 0))) :: ((u9 2), .inl (ca 0, 120, .inl (fun _ => 0))) :: ((u9 3), .inl (ca 0, 120, .inl (fun _ => 0))) :: ((u9 4), .inl (ca 1, 120, .inl (fun _ => 0))) :: ((u9 5), .inl (ca 0, 120, .inl (fun _ => 0))) :: (h0, .inr (4, [.ref q5, .ref q18, .ref q73, .ref q26, .ref q103, .ref q111, .ref q119, .int 0, .null])) :: sc_fw ca fa fb (sc_rw ca q5 ra rb 24) j) (60 + 2 * j) (3930 + 9 * j) [(1, .int y2), (0, .ref h0)] 127 [] := by
          intro fv
          induction fv with
          | zero => intro y2 j fa fb h2 hj hv; exact absurd hv (Nat.not_lt_zero _)
          | succ fv ih2 =>
            intro y2 j fa fb h2 hj hv
            refine sc_iload_n C dX4_init_127 0 rfl rfl ?_
            refine sc_bipush C dX4_init_128 (by decide) (fun k128 ek128 => ?_)
            refine sc_icmp_ge C 152 dX4_init_130 (by decide) (fun c130 => ?_) (fun c130 => ?_)
            · have ej : j = 6 := by omega
              subst ej
              refine sc_aload_n C dX4_init_152 1 rfl rfl ?_
              refine sc_iconst C dX4_init_153 (by decide) (fun k153 ek153 => ?_)
              have ek153 : k153 = 0 := Int32.toInt_inj.mp (by rw [ek153]; rfl)
              subst ek153
              refine sc_put C 12 (ty := .int) (ws' := ((q119, .inl (ca 2, 6, .inr (.inr (.inr (.inr (sc_qf fa 6)))))) :: (q111, .inl (ca 0, 120, .inl (fun _ => 0))) :: (q103, .inl (ca 0, 120, .inl (fun _ => 0))) :: (q73, .inl (ca 0, 6, .inl (upd (upd (upd (fun _ => 0) 0 (30)) 2 (-1)) 4 (1)))) :: (q26, .inl (ca 3, 24, .inr (.inr (.inr (.inr (sc_qf ra 24)))))) :: (q18, .inl (ca 0, 24, .inl (sc_pf sc_id 24))) :: (q5, .inr (0, [.ref (u9 1), .ref (u9 2), .ref (u9 3), .ref (u9 4), .ref (u9 5), .int 0])) :: ((u9 1), .inl (ca 0, 120, .inl (fun _ => 0))) :: ((u9 2), .inl (ca 0, 120, .inl (fun _ => 0))) :: ((u9 3), .inl (ca 0, 120, .inl (fun _ => 0))) :: ((u9 4), .inl (ca 1, 120, .inl (fun _ => 0))) :: ((u9 5), .inl (ca 0, 120, .inl (fun _ => 0))) :: (h0, .inr (4, [.ref q5, .ref q18, .ref q73, .ref q26, .ref q103, .ref q111, .ref q119, .int 0, .null])) :: sc_fw ca fa fb (sc_rw ca q5 ra rb 24) 6)) rfl rfl 7 (by decide) wf_X4_45 rfl (by decide +kernel) rfl rfl (Nat.le_of_ble_eq_true rfl) rfl dX4_init_154 ?_
              refine sc_aload_n C dX4_init_157 1 rfl rfl ?_
              refine sc_new C (ci := 3) (fs := [.null, .null, .int 0, .int 0]) rfl tyX3 tyX3_ok wl_X4_49 wa_X3 wn_X3 dfX3 (Nat.le_of_ble_eq_true rfl) (Nat.le_of_ble_eq_true rfl) dX4_init_158 (fun q158 => ?_)
              refine sc_dup C dX4_init_161 rfl ?_
              refine sc_callN C (np := 0) (As := []) (rest := [.ref q158, .ref h0]) (c_X3_init l D ca q158) wc_X3_init wn_X3 hN.2.2.1 wi_X3_init rfl ⟨by decide, by decide, by decide +kernel⟩ ⟨Nat.le_of_ble_eq_true rfl, Nat.le_of_ble_eq_true rfl⟩ (fun _ _ _ _ => trivial) (fun _ _ => trivial) rfl rfl (Nat.le_of_ble_eq_true rfl) (Nat.le_of_ble_eq_true rfl) (Nat.le_of_ble_eq_true rfl) dX4_init_162 (fun u162 hK162 => ?_)
              refine sc_eqw (ws' := ((q158, .inr (3, [.ref (u162 1), .ref (u162 2), .int 0, .int 0])) :: ((u162 1), .inl (ca 0, 120, .inl (fun _ => 0))) :: ((u162 2), .inl (ca 0, 120, .inl (fun _ => 0))) :: (q119, .inl (ca 2, 6, .inr (.inr (.inr (.inr (sc_qf fa 6)))))) :: (q111, .inl (ca 0, 120, .inl (fun _ => 0))) :: (q103, .inl (ca 0, 120, .inl (fun _ => 0))) :: (q73, .inl (ca 0, 6, .inl (upd (upd (upd (fun _ => 0) 0 (30)) 2 (-1)) 4 (1)))) :: (q26, .inl (ca 3, 24, .inr (.inr (.inr (.inr (sc_qf ra 24)))))) :: (q18, .inl (ca 0, 24, .inl (sc_pf sc_id 24))) :: (q5, .inr (0, [.ref (u9 1), .ref (u9 2), .ref (u9 3), .ref (u9 4), .ref (u9 5), .int 0])) :: ((u9 1), .inl (ca 0, 120, .inl (fun _ => 0))) :: ((u9 2), .inl (ca 0, 120, .inl (fun _ => 0))) :: ((u9 3), .inl (ca 0, 120, .inl (fun _ => 0))) :: ((u9 4), .inl (ca 1, 120, .inl (fun _ => 0))) :: ((u9 5), .inl (ca 0, 120, .inl (fun _ => 0))) :: (h0, .inr (4, [.ref q5, .ref q18, .ref q73, .ref q26, .ref q103, .ref q111, .ref q119, .int 0, .null])) :: sc_fw ca fa fb (sc_rw ca q5 ra rb 24) 6)) rfl ?_
              refine sc_putF C hI 15 (ty := (.object RX3)) (ws' := ((q158, .inr (3, [.ref (u162 1), .ref (u162 2), .int 0, .int 0])) :: ((u162 1), .inl (ca 0, 120, .inl (fun _ => 0))) :: ((u162 2), .inl (ca 0, 120, .inl (fun _ => 0))) :: (q119, .inl (ca 2, 6, .inr (.inr (.inr (.inr (sc_qf fa 6)))))) :: (q111, .inl (ca 0, 120, .inl (fun _ => 0))) :: (q103, .inl (ca 0, 120, .inl (fun _ => 0))) :: (q73, .inl (ca 0, 6, .inl (upd (upd (upd (fun _ => 0) 0 (30)) 2 (-1)) 4 (1)))) :: (q26, .inl (ca 3, 24, .inr (.inr (.inr (.inr (sc_qf ra 24)))))) :: (q18, .inl (ca 0, 24, .inl (sc_pf sc_id 24))) :: (q5, .inr (0, [.ref (u9 1), .ref (u9 2), .ref (u9 3), .ref (u9 4), .ref (u9 5), .int 0])) :: ((u9 1), .inl (ca 0, 120, .inl (fun _ => 0))) :: ((u9 2), .inl (ca 0, 120, .inl (fun _ => 0))) :: ((u9 3), .inl (ca 0, 120, .inl (fun _ => 0))) :: ((u9 4), .inl (ca 1, 120, .inl (fun _ => 0))) :: ((u9 5), .inl (ca 0, 120, .inl (fun _ => 0))) :: (h0, .inr (4, [.ref q5, .ref q18, .ref q73, .ref q26, .ref q103, .ref q111, .ref q119, .int 0, .ref q158])) :: sc_fw ca fa fb (sc_rw ca q5 ra rb 24) 6)) rfl rfl 8 (by decide) wf_X4_52 rfl rfl (by decide +kernel) rfl rfl (Nat.le_of_ble_eq_true rfl) rfl dX4_init_165 ?_
              obtain ⟨ad, had⟩ : ∃ ad : Nat → Nat, ad = (fun i => ([h0, q5, u9 1, u9 2, u9 3, u9 4, u9 5, q18, q73, q26, q103, q111, q119, q158, u162 1, u162 2, ra 0, ra 1, ra 2, ra 3, ra 4, ra 5, ra 6, ra 7, ra 8, ra 9, ra 10, ra 11, ra 12, ra 13, ra 14, ra 15, ra 16, ra 17, ra 18, ra 19, ra 20, ra 21, ra 22, ra 23, rb 0, rb 1, rb 2, rb 3, rb 4, rb 5, rb 6, rb 7, rb 8, rb 9, rb 10, rb 11, rb 12, rb 13, rb 14, rb 15, rb 16, rb 17, rb 18, rb 19, rb 20, rb 21, rb 22, rb 23, fa 0, fa 1, fa 2, fa 3, fa 4, fa 5, fb 0, fb 1, fb 2, fb 3, fb 4, fb 5] : List Nat).getD i 0) := ⟨_, rfl⟩
              refine sc_qeq 7 (g := fun p => some (if 16 + p = 0 then h0 else ad (16 + p))) (ws' := ((q158, .inr (3, [.ref (u162 1), .ref (u162 2), .int 0, .int 0])) :: ((u162 1), .inl (ca 0, 120, .inl (fun _ => 0))) :: ((u162 2), .inl (ca 0, 120, .inl (fun _ => 0))) :: (q119, .inl (ca 2, 6, .inr (.inr (.inr (.inr (sc_qf fa 6)))))) :: (q111, .inl (ca 0, 120, .inl (fun _ => 0))) :: (q103, .inl (ca 0, 120, .inl (fun _ => 0))) :: (q73, .inl (ca 0, 6, .inl (upd (upd (upd (fun _ => 0) 0 (30)) 2 (-1)) 4 (1)))) :: (q26, .inl (ca 3, 24, .inr (.inr (.inr (.inr (fun p => some (if 16 + p = 0 then h0 else ad (16 + p)))))))) :: (q18, .inl (ca 0, 24, .inl (sc_pf sc_id 24))) :: (q5, .inr (0, [.ref (u9 1), .ref (u9 2), .ref (u9 3), .ref (u9 4), .ref (u9 5), .int 0])) :: ((u9 1), .inl (ca 0, 120, .inl (fun _ => 0))) :: ((u9 2), .inl (ca 0, 120, .inl (fun _ => 0))) :: ((u9 3), .inl (ca 0, 120, .inl (fun _ => 0))) :: ((u9 4), .inl (ca 1, 120, .inl (fun _ => 0))) :: ((u9 5), .inl (ca 0, 120, .inl (fun _ => 0))) :: (h0, .inr (4, [.ref q5, .ref q18, .ref q73, .ref q26, .ref q103, .ref q111, .ref q119, .int 0, .ref q158])) :: sc_fw ca fa fb (sc_rw ca q5 ra rb 24) 6)) rfl (fun i hi => by rw [if_neg (by omega)]; subst had; exact sc_q24 i hi) rfl ?_
              refine sc_qeq 3 (g := fun p => some (if 64 + p = 0 then h0 else ad (64 + p))) (ws' := ((q158, .inr (3, [.ref (u162 1), .ref (u162 2), .int 0, .int 0])) :: ((u162 1), .inl (ca 0, 120, .inl (fun _ => 0))) :: ((u162 2), .inl (ca 0, 120, .inl (fun _ => 0))) :: (q119, .inl (ca 2, 6, .inr (.inr (.inr (.inr (fun p => some (if 64 + p = 0 then h0 else ad (64 + p)))))))) :: (q111, .inl (ca 0, 120, .inl (fun _ => 0))) :: (q103, .inl (ca 0, 120, .inl (fun _ => 0))) :: (q73, .inl (ca 0, 6, .inl (upd (upd (upd (fun _ => 0) 0 (30)) 2 (-1)) 4 (1)))) :: (q26, .inl (ca 3, 24, .inr (.inr (.inr (.inr (fun p => some (if 16 + p = 0 then h0 else ad (16 + p)))))))) :: (q18, .inl (ca 0, 24, .inl (sc_pf sc_id 24))) :: (q5, .inr (0, [.ref (u9 1), .ref (u9 2), .ref (u9 3), .ref (u9 4), .ref (u9 5), .int 0])) :: ((u9 1), .inl (ca 0, 120, .inl (fun _ => 0))) :: ((u9 2), .inl (ca 0, 120, .inl (fun _ => 0))) :: ((u9 3), .inl (ca 0, 120, .inl (fun _ => 0))) :: ((u9 4), .inl (ca 1, 120, .inl (fun _ => 0))) :: ((u9 5), .inl (ca 0, 120, .inl (fun _ => 0))) :: (h0, .inr (4, [.ref q5, .ref q18, .ref q73, .ref q26, .ref q103, .ref q111, .ref q119, .int 0, .ref q158])) :: sc_fw ca fa fb (sc_rw ca q5 ra rb 24) 6)) rfl (fun i hi => by rw [if_neg (by omega)]; subst had; exact sc_q6 i hi) rfl ?_
              refine sc_pi (n := 76) sc_pi4 (ws' := (List.range 76).map (fun i => (if i = 0 then h0 else ad i, sd_cell (fun i => if i = 0 then h0 else ad i) ca i (sd_z i)))) ?_ (by simp) sc_pi4_inj ?_
              · subst had
                intro k hk
                match k, hk with
                | 0, _ => rfl
                | 1, _ => rfl
                | 2, _ => rfl
                | 3, _ => rfl
                | 4, _ => rfl
                | 5, _ => rfl
                | 6, _ => rfl
                | 7, _ => rfl
                | 8, _ => rfl
                | 9, _ => rfl
                | 10, _ => rfl
                | 11, _ => rfl
                | 12, _ => rfl
                | 13, _ => rfl
                | 14, _ => rfl
                | 15, _ => rfl
                | 16, _ => rfl
                | 17, _ => rfl
                | 18, _ => rfl
                | 19, _ => rfl
                | 20, _ => rfl
                | 21, _ => rfl
                | 22, _ => rfl
                | 23, _ => rfl
                | 24, _ => rfl
                | 25, _ => rfl
                | 26, _ => rfl
                | 27, _ => rfl
                | 28, _ => rfl
                | 29, _ => rfl
                | 30, _ => rfl
                | 31, _ => rfl
                | 32, _ => rfl
                | 33, _ => rfl
                | 34, _ => rfl
                | 35, _ => rfl
                | 36, _ => rfl
                | 37, _ => rfl
                | 38, _ => rfl
                | 39, _ => rfl
                | 40, _ => rfl
                | 41, _ => rfl
                | 42, _ => rfl
                | 43, _ => rfl
                | 44, _ => rfl
                | 45, _ => rfl
                | 46, _ => rfl
                | 47, _ => rfl
                | 48, _ => rfl
                | 49, _ => rfl
                | 50, _ => rfl
                | 51, _ => rfl
                | 52, _ => rfl
                | 53, _ => rfl
                | 54, _ => rfl
                | 55, _ => rfl
                | 56, _ => rfl
                | 57, _ => rfl
                | 58, _ => rfl
                | 59, _ => rfl
                | 60, _ => rfl
                | 61, _ => rfl
                | 62, _ => rfl
                | 63, _ => rfl
                | 64, _ => rfl
                | 65, _ => rfl
                | 66, _ => rfl
                | 67, _ => rfl
                | 68, _ => rfl
                | 69, _ => rfl
                | 70, _ => rfl
                | 71, _ => rfl
                | 72, _ => rfl
                | 73, _ => rfl
                | 74, _ => rfl
                | 75, _ => rfl
                | n + 76, h => exact absurd h (by omega)
              · exact hret ad _ _ _ _ (Nat.le_of_ble_eq_true rfl) (Nat.le_of_ble_eq_true rfl) dX4_init_168 (((hKi.app (hK9.sub [1] rfl)).app hK119).app hK26)
            · refine sc_aload_n C dX4_init_133 1 rfl rfl ?_
              refine sc_get C 12 rfl rfl 6 (by decide) rfl wf_X4_40 dX4_init_134 ?_
              refine sc_iload_n C dX4_init_137 0 rfl rfl ?_
              refine sc_new C (ci := 1) (fs := [.null, .int 0, .int 0, .int 0, .int 0]) rfl tyX1 tyX1_ok wl_X4_38 wa_X1 wn_X1 dfX1 (by dsimp only; omega) (by dsimp only; omega) dX4_init_138 (fun q138 => ?_)
              refine sc_dup C dX4_init_141 rfl ?_
              refine sc_callN C (np := 0) (As := []) (rest := [.ref q138, .int y2, .ref q119]) (c_X1_init l D ca q138) wc_X1_init wn_X1 hN.2.1 wi_X1_init rfl ⟨by decide, by decide, by decide +kernel⟩ ⟨Nat.le_of_ble_eq_true rfl, Nat.le_of_ble_eq_true rfl⟩ (fun _ _ _ _ => trivial) (fun _ _ => trivial) rfl rfl (Nat.le_of_ble_eq_true rfl) (by dsimp only; omega) (by dsimp only; omega) dX4_init_142 (fun u142 hK142 => ?_)
              refine sc_eqw (ws' := ((q138, .inr (1, [.ref (u142 1), .int 0, .int 0, .int 0, .int 0])) :: ((u142 1), .inl (ca 0, 4, .inl (fun _ => 0))) :: (q119, .inl (ca 2, 6, .inr (.inr (.inr (.inr (sc_qf fa j)))))) :: (q111, .inl (ca 0, 120, .inl (fun _ => 0))) :: (q103, .inl (ca 0, 120, .inl (fun _ => 0))) :: (q73, .inl (ca 0, 6, .inl (upd (upd (upd (fun _ => 0) 0 (30)) 2 (-1)) 4 (1)))) :: (q26, .inl (ca 3, 24, .inr (.inr (.inr (.inr (sc_qf ra 24)))))) :: (q18, .inl (ca 0, 24, .inl (sc_pf sc_id 24))) :: (q5, .inr (0, [.ref (u9 1), .ref (u9 2), .ref (u9 3), .ref (u9 4), .ref (u9 5), .int 0])) :: ((u9 1), .inl (ca 0, 120, .inl (fun _ => 0))) :: ((u9 2), .inl (ca 0, 120, .inl (fun _ => 0))) :: ((u9 3), .inl (ca 0, 120, .inl (fun _ => 0))) :: ((u9 4), .inl (ca 1, 120, .inl (fun _ => 0))) :: ((u9 5), .inl (ca 0, 120, .inl (fun _ => 0))) :: (h0, .inr (4, [.ref q5, .ref q18, .ref q73, .ref q26, .ref q103, .ref q111, .ref q119, .int 0, .null])) :: sc_fw ca fa fb (sc_rw ca q5 ra rb 24) j)) rfl ?_
              refine sc_astq C hK119 2 0 1 rfl rfl rfl j ⟨h2, by omega⟩ (ws' := ((q138, .inr (1, [.ref (u142 1), .int 0, .int 0, .int 0, .int 0])) :: ((u142 1), .inl (ca 0, 4, .inl (fun _ => 0))) :: (q119, .inl (ca 2, 6, .inr (.inr (.inr (.inr (sc_qf (va_up fa j q138) (j + 1))))))) :: (q111, .inl (ca 0, 120, .inl (fun _ => 0))) :: (q103, .inl (ca 0, 120, .inl (fun _ => 0))) :: (q73, .inl (ca 0, 6, .inl (upd (upd (upd (fun _ => 0) 0 (30)) 2 (-1)) 4 (1)))) :: (q26, .inl (ca 3, 24, .inr (.inr (.inr (.inr (sc_qf ra 24)))))) :: (q18, .inl (ca 0, 24, .inl (sc_pf sc_id 24))) :: (q5, .inr (0, [.ref (u9 1), .ref (u9 2), .ref (u9 3), .ref (u9 4), .ref (u9 5), .int 0])) :: ((u9 1), .inl (ca 0, 120, .inl (fun _ => 0))) :: ((u9 2), .inl (ca 0, 120, .inl (fun _ => 0))) :: ((u9 3), .inl (ca 0, 120, .inl (fun _ => 0))) :: ((u9 4), .inl (ca 1, 120, .inl (fun _ => 0))) :: ((u9 5), .inl (ca 0, 120, .inl (fun _ => 0))) :: (h0, .inr (4, [.ref q5, .ref q18, .ref q73, .ref q26, .ref q103, .ref q111, .ref q119, .int 0, .null])) :: sc_fw ca fa fb (sc_rw ca q5 ra rb 24) j)) (by rw [sc_qf_up] <;> rfl) dX4_init_145 ?_
              refine sc_iinc C dX4_init_146 0 rfl (by decide) (by decide) (by omega) (fun zz => [(1, .int zz), (0, .ref h0)]) (fun _ => rfl) (fun u146 eu146 => ?_)
              refine sc_goto C 127 dX4_init_149 (by decide) ?_
              have hi2 := ih2 u146 (j + 1) (va_up fa j q138) (va_up fb j (u142 1)) (by omega) (by omega) (by omega)
              rw [sc_fw_up] at hi2
              exact sc_pm (sc_rot2 _ _ [(q119, .inl (ca 2, 6, .inr (.inr (.inr (.inr (sc_qf (va_up fa j q138) (j + 1))))))), (q111, .inl (ca 0, 120, .inl (fun _ => 0))), (q103, .inl (ca 0, 120, .inl (fun _ => 0))), (q73, .inl (ca 0, 6, .inl (upd (upd (upd (fun _ => 0) 0 (30)) 2 (-1)) 4 (1)))), (q26, .inl (ca 3, 24, .inr (.inr (.inr (.inr (sc_qf ra 24)))))), (q18, .inl (ca 0, 24, .inl (sc_pf sc_id 24))), (q5, .inr (0, [.ref (u9 1), .ref (u9 2), .ref (u9 3), .ref (u9 4), .ref (u9 5), .int 0])), ((u9 1), .inl (ca 0, 120, .inl (fun _ => 0))), ((u9 2), .inl (ca 0, 120, .inl (fun _ => 0))), ((u9 3), .inl (ca 0, 120, .inl (fun _ => 0))), ((u9 4), .inl (ca 1, 120, .inl (fun _ => 0))), ((u9 5), .inl (ca 0, 120, .inl (fun _ => 0))), (h0, .inr (4, [.ref q5, .ref q18, .ref q73, .ref q26, .ref q103, .ref q111, .ref q119, .int 0, .null]))] (sc_fw ca fa fb (sc_rw ca q5 ra rb 24) j)) (sc_widen (by show 60 + 2 * j + 1 + 1 ≤ 60 + 2 * (j + 1); omega) (by show 3930 + 9 * j + 5 + 4 ≤ 3930 + 9 * (j + 1); omega) hi2)
        refine sc_eqw (ws' := ((q119, .inl (ca 2, 6, .inr (.inr (.inr (.inr (sc_qf (fun _ => 0) 0)))))) :: (q111, .inl (ca 0, 120, .inl (fun _ => 0))) :: (q103, .inl (ca 0, 120, .inl (fun _ => 0))) :: (q73, .inl (ca 0, 6, .inl (upd (upd (upd (fun _ => 0) 0 (30)) 2 (-1)) 4 (1)))) :: (q26, .inl (ca 3, 24, .inr (.inr (.inr (.inr (sc_qf ra 24)))))) :: (q18, .inl (ca 0, 24, .inl (sc_pf sc_id 24))) :: (q5, .inr (0, [.ref (u9 1), .ref (u9 2), .ref (u9 3), .ref (u9 4), .ref (u9 5), .int 0])) :: ((u9 1), .inl (ca 0, 120, .inl (fun _ => 0))) :: ((u9 2), .inl (ca 0, 120, .inl (fun _ => 0))) :: ((u9 3), .inl (ca 0, 120, .inl (fun _ => 0))) :: ((u9 4), .inl (ca 1, 120, .inl (fun _ => 0))) :: ((u9 5), .inl (ca 0, 120, .inl (fun _ => 0))) :: (h0, .inr (4, [.ref q5, .ref q18, .ref q73, .ref q26, .ref q103, .ref q111, .ref q119, .int 0, .null])) :: sc_fw ca (fun _ => 0) (fun _ => 0) (sc_rw ca q5 ra rb 24) 0)) (by rw [sc_qf_0] <;> rfl) ?_
        exact key127 _ k125 0 (fun _ => 0) (fun _ => 0) (by omega) (by omega) (Nat.lt_succ_self _)
      · refine sc_aload_n C dX4_init_40 1 rfl rfl ?_
        refine sc_get C 8 rfl rfl 1 (by decide) rfl wf_X4_16 dX4_init_41 ?_
        refine sc_iload_n C dX4_init_44 0 rfl rfl ?_
        refine sc_iload_n C dX4_init_45 0 rfl rfl ?_
        refine sc_iast C hKi 1 rfl k ⟨h1, by omega⟩ (ws' := ((q26, .inl (ca 3, 24, .inr (.inr (.inr (.inr (sc_qf ra k)))))) :: (q18, .inl (ca 0, 24, .inl (sc_pf sc_id (k + 1)))) :: (q5, .inr (0, [.ref (u9 1), .ref (u9 2), .ref (u9 3), .ref (u9 4), .ref (u9 5), .int 0])) :: ((u9 1), .inl (ca 0, 120, .inl (fun _ => 0))) :: ((u9 2), .inl (ca 0, 120, .inl (fun _ => 0))) :: ((u9 3), .inl (ca 0, 120, .inl (fun _ => 0))) :: ((u9 4), .inl (ca 1, 120, .inl (fun _ => 0))) :: ((u9 5), .inl (ca 0, 120, .inl (fun _ => 0))) :: (h0, .inr (4, [.ref q5, .ref q18, .null, .ref q26, .null, .null, .null, .int 0, .null])) :: sc_rw ca q5 ra rb k)) (by rw [sc_pf_up sc_id k (sd_ofInt h1)] <;> rfl) dX4_init_46 ?_
        refine sc_aload_n C dX4_init_47 1 rfl rfl ?_
        refine sc_get C 8 rfl rfl 3 (by decide) rfl wf_X4_22 dX4_init_48 ?_
        refine sc_iload_n C dX4_init_51 0 rfl rfl ?_
        refine sc_new C (ci := 2) (fs := [.null, .null, .int 0, .int 0, .int 0, .int 0]) rfl tyX2 tyX2_ok wl_X4_20 wa_X2 wn_X2 dfX2 (by dsimp only; omega) (by dsimp only; omega) dX4_init_52 (fun q52 => ?_)
        refine sc_dup C dX4_init_55 rfl ?_
        refine sc_aload_n C dX4_init_56 1 rfl rfl ?_
        refine sc_get C 9 rfl rfl 0 (by decide) rfl wf_X4_10 dX4_init_57 ?_
        refine sc_callI C (np := 1) (As := [.ref q5]) (rest := [.ref q52, .int y1, .ref q26]) (c_X2_init l D ca q52 q5) wc_X2_init wn_X2 wm_X4_26 wi_X2_init rfl ⟨by decide, by decide, by decide +kernel⟩ ⟨Nat.le_of_ble_eq_true rfl, Nat.le_of_ble_eq_true rfl⟩ (fun _ _ _ _ => trivial) (fun _ _ => trivial) rfl rfl (Nat.le_of_ble_eq_true rfl) (by dsimp only; omega) (by dsimp only; omega) dX4_init_60 (fun u60 hK60 => ?_)
        refine sc_eqw (ws' := ((q52, .inr (2, [.ref q5, .ref (u60 1), .int 0, .int 0, .int 0, .int 0])) :: ((u60 1), .inl (ca 0, 120, .inl (fun _ => 0))) :: (q26, .inl (ca 3, 24, .inr (.inr (.inr (.inr (sc_qf ra k)))))) :: (q18, .inl (ca 0, 24, .inl (sc_pf sc_id (k + 1)))) :: (q5, .inr (0, [.ref (u9 1), .ref (u9 2), .ref (u9 3), .ref (u9 4), .ref (u9 5), .int 0])) :: ((u9 1), .inl (ca 0, 120, .inl (fun _ => 0))) :: ((u9 2), .inl (ca 0, 120, .inl (fun _ => 0))) :: ((u9 3), .inl (ca 0, 120, .inl (fun _ => 0))) :: ((u9 4), .inl (ca 1, 120, .inl (fun _ => 0))) :: ((u9 5), .inl (ca 0, 120, .inl (fun _ => 0))) :: (h0, .inr (4, [.ref q5, .ref q18, .null, .ref q26, .null, .null, .null, .int 0, .null])) :: sc_rw ca q5 ra rb k)) rfl ?_
        refine sc_astq C hK26 2 0 2 rfl rfl rfl k ⟨h1, by omega⟩ (ws' := ((q52, .inr (2, [.ref q5, .ref (u60 1), .int 0, .int 0, .int 0, .int 0])) :: ((u60 1), .inl (ca 0, 120, .inl (fun _ => 0))) :: (q26, .inl (ca 3, 24, .inr (.inr (.inr (.inr (sc_qf (va_up ra k q52) (k + 1))))))) :: (q18, .inl (ca 0, 24, .inl (sc_pf sc_id (k + 1)))) :: (q5, .inr (0, [.ref (u9 1), .ref (u9 2), .ref (u9 3), .ref (u9 4), .ref (u9 5), .int 0])) :: ((u9 1), .inl (ca 0, 120, .inl (fun _ => 0))) :: ((u9 2), .inl (ca 0, 120, .inl (fun _ => 0))) :: ((u9 3), .inl (ca 0, 120, .inl (fun _ => 0))) :: ((u9 4), .inl (ca 1, 120, .inl (fun _ => 0))) :: ((u9 5), .inl (ca 0, 120, .inl (fun _ => 0))) :: (h0, .inr (4, [.ref q5, .ref q18, .null, .ref q26, .null, .null, .null, .int 0, .null])) :: sc_rw ca q5 ra rb k)) (by rw [sc_qf_up] <;> rfl) dX4_init_63 ?_
        refine sc_iinc C dX4_init_64 0 rfl (by decide) (by decide) (by omega) (fun zz => [(1, .int zz), (0, .ref h0)]) (fun _ => rfl) (fun u64 eu64 => ?_)
        refine sc_goto C 34 dX4_init_67 (by decide) ?_
        have hi1 := ih u64 (k + 1) (va_up ra k q52) (va_up rb k (u60 1)) (by omega) (by omega) (by omega)
        rw [sc_rw_up] at hi1
        exact sc_pm (sc_rot2 _ _ [(q26, .inl (ca 3, 24, .inr (.inr (.inr (.inr (sc_qf (va_up ra k q52) (k + 1))))))), (q18, .inl (ca 0, 24, .inl (sc_pf sc_id (k + 1)))), (q5, .inr (0, [.ref (u9 1), .ref (u9 2), .ref (u9 3), .ref (u9 4), .ref (u9 5), .int 0])), ((u9 1), .inl (ca 0, 120, .inl (fun _ => 0))), ((u9 2), .inl (ca 0, 120, .inl (fun _ => 0))), ((u9 3), .inl (ca 0, 120, .inl (fun _ => 0))), ((u9 4), .inl (ca 1, 120, .inl (fun _ => 0))), ((u9 5), .inl (ca 0, 120, .inl (fun _ => 0))), (h0, .inr (4, [.ref q5, .ref q18, .null, .ref q26, .null, .null, .null, .int 0, .null]))] (sc_rw ca q5 ra rb k)) (sc_widen (by show 8 + 2 * k + 1 + 1 ≤ 8 + 2 * (k + 1); omega) (by show 654 + 126 * k + 6 + 120 ≤ 654 + 126 * (k + 1); omega) hi1)
  refine sc_eqw (ws' := ((q26, .inl (ca 3, 24, .inr (.inr (.inr (.inr (sc_qf (fun _ => 0) 0)))))) :: (q18, .inl (ca 0, 24, .inl (sc_pf sc_id 0))) :: (q5, .inr (0, [.ref (u9 1), .ref (u9 2), .ref (u9 3), .ref (u9 4), .ref (u9 5), .int 0])) :: ((u9 1), .inl (ca 0, 120, .inl (fun _ => 0))) :: ((u9 2), .inl (ca 0, 120, .inl (fun _ => 0))) :: ((u9 3), .inl (ca 0, 120, .inl (fun _ => 0))) :: ((u9 4), .inl (ca 1, 120, .inl (fun _ => 0))) :: ((u9 5), .inl (ca 0, 120, .inl (fun _ => 0))) :: (h0, .inr (4, [.ref q5, .ref q18, .null, .ref q26, .null, .null, .null, .int 0, .null])) :: sc_rw ca q5 (fun _ => 0) (fun _ => 0) 0)) (by rw [sc_qf_0, sc_pf_0] <;> rfl) ?_
  exact key34 _ k32 0 (fun _ => 0) (fun _ => 0) (by omega) (by omega) (Nat.lt_succ_self _)

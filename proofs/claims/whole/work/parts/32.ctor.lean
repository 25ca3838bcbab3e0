theorem dfX0 : ∀ j, j < 6 → defaultValue (tyX0 j) = vp_V [.null, .null, .null, .null, .null, .int 0] j := fun j hj => by
  rcases (show j = 0 ∨ j = 1 ∨ j = 2 ∨ j = 3 ∨ j = 4 ∨ j = 5 by omega) with rfl | rfl | rfl | rfl | rfl | rfl <;> rfl
theorem dfX1 : ∀ j, j < 5 → defaultValue (tyX1 j) = vp_V [.null, .int 0, .int 0, .int 0, .int 0] j := fun j hj => by
  rcases (show j = 0 ∨ j = 1 ∨ j = 2 ∨ j = 3 ∨ j = 4 by omega) with rfl | rfl | rfl | rfl | rfl <;> rfl
theorem dfX2 : ∀ j, j < 6 → defaultValue (tyX2 j) = vp_V [.null, .null, .int 0, .int 0, .int 0, .int 0] j := fun j hj => by
  rcases (show j = 0 ∨ j = 1 ∨ j = 2 ∨ j = 3 ∨ j = 4 ∨ j = 5 by omega) with rfl | rfl | rfl | rfl | rfl | rfl <;> rfl
theorem dfX3 : ∀ j, j < 4 → defaultValue (tyX3 j) = vp_V [.null, .null, .int 0, .int 0] j := fun j hj => by
  rcases (show j = 0 ∨ j = 1 ∨ j = 2 ∨ j = 3 by omega) with rfl | rfl | rfl | rfl <;> rfl
theorem dfX4 : ∀ j, j < 9 → defaultValue (tyX4 j) = vp_V [.null, .null, .null, .null, .null, .null, .null, .int 0, .null] j := fun j hj => by
  rcases (show j = 0 ∨ j = 1 ∨ j = 2 ∨ j = 3 ∨ j = 4 ∨ j = 5 ∨ j = 6 ∨ j = 7 ∨ j = 8 by omega) with rfl | rfl | rfl | rfl | rfl | rfl | rfl | rfl | rfl <;> rfl
theorem dfX5 : ∀ j, j < 23 → defaultValue (tyX5 j) = vp_V [.int 0, .null, .null, .null, .null, .null, .null, .int 0, .null, .null, .null, .null, .null, .null, .null, .int 0, .int 0, .int 0, .null, .int 0, .null, .null, .int 0] j := fun j hj => by
  rcases (show j = 0 ∨ j = 1 ∨ j = 2 ∨ j = 3 ∨ j = 4 ∨ j = 5 ∨ j = 6 ∨ j = 7 ∨ j = 8 ∨ j = 9 ∨ j = 10 ∨ j = 11 ∨ j = 12 ∨ j = 13 ∨ j = 14 ∨ j = 15 ∨ j = 16 ∨ j = 17 ∨ j = 18 ∨ j = 19 ∨ j = 20 ∨ j = 21 ∨ j = 22 by omega) with rfl | rfl | rfl | rfl | rfl | rfl | rfl | rfl | rfl | rfl | rfl | rfl | rfl | rfl | rfl | rfl | rfl | rfl | rfl | rfl | rfl | rfl | rfl <;> rfl
theorem sc_kof {X : sd_X} {l : Launch} {cc : ByteArray} {own : String} {R0 : Room} {nL : Nat} {A : Nat → Prop} {D : va_G} {ca : Nat → ClassId} (C : sc_Cx X l cc own R0 nL A D ca) : sc_k ca (sc_s X) := by
  obtain ⟨p, l', e, R, s, m, args, below, meth, c, kc0, ks0, Q⟩ := X
  exact C.2.2.2.2.2.2.2.2.1
theorem sc_Kof {X : sd_X} {l : Launch} {cc : ByteArray} {own : String} {R0 : Room} {nL : Nat} {A : Nat → Prop} {D : va_G} {ca : Nat → ClassId} (C : sc_Cx X l cc own R0 nL A D ca) : va_K D vwCl [] (sc_s X) := by
  obtain ⟨p, l', e, R, s, m, args, below, meth, c, kc0, ks0, Q⟩ := X
  exact C.2.2.2.2.2.2.2.1
set_option maxRecDepth 100000 in
set_option maxHeartbeats 4000000 in
theorem c_X0_init (l : Launch) (D : va_G) (ca : Nat → ClassId) (h0 : Nat) : sc_C l yX0_init cX0_init 1 { frames := 1, cells := 5, slots := 600, locals := 12 } D ca (fun _ => True) [.ref h0] (h0, .inr (0, [.null, .null, .null, .null, .null, .int 0])) (fun u => [(h0, .inr (0, [.ref (u 1), .ref (u 2), .ref (u 3), .ref (u 4), .ref (u 5), .int 0])), ((u 1), .inl (ca 0, 120, .inl (fun _ => 0))), ((u 2), .inl (ca 0, 120, .inl (fun _ => 0))), ((u 3), .inl (ca 0, 120, .inl (fun _ => 0))), ((u 4), .inl (ca 1, 120, .inl (fun _ => 0))), ((u 5), .inl (ca 0, 120, .inl (fun _ => 0)))]) [(ca 0, .int), (ca 1, .boolean)] := by
  refine sc_ent (own := RX0) (by decide) rfl rfl (Nat.le_of_ble_eq_true rfl) (fun X A C hI _ hret => ?_)
  show sc_Wd X A 1 D [(h0, .inr (0, [.null, .null, .null, .null, .null, .int 0]))] 0 0 [(0, .ref h0)] 0 []
  refine sc_aload_n C dX0_init_0 0 rfl rfl ?_
  refine sc_objInit C wm_X0_3 (Nat.le_of_ble_eq_true rfl) (Nat.le_of_ble_eq_true rfl) dX0_init_1 ?_
  refine sc_aload_n C dX0_init_4 0 rfl rfl ?_
  refine sc_bipush C dX0_init_5 (by decide) (fun k5 ek5 => ?_)
  refine sc_newi C 120 (by omega) (by decide) (Nat.le_of_ble_eq_true rfl) (Nat.le_of_ble_eq_true rfl) dX0_init_7 (fun q7 hK7 => ?_)
  refine sc_putF C hI 1 (ty := (.array .int)) (ws' := [(q7, .inl (ca 0, 120, .inl (fun _ => 0))), (h0, .inr (0, [.ref q7, .null, .null, .null, .null, .int 0]))]) rfl rfl 0 (by decide) wf_X0_9 rfl rfl (by decide +kernel) rfl rfl (Nat.le_of_ble_eq_true rfl) rfl dX0_init_9 ?_
  refine sc_aload_n C dX0_init_12 0 rfl rfl ?_
  refine sc_bipush C dX0_init_13 (by decide) (fun k13 ek13 => ?_)
  refine sc_newi C 120 (by omega) (by decide) (Nat.le_of_ble_eq_true rfl) (Nat.le_of_ble_eq_true rfl) dX0_init_15 (fun q15 hK15 => ?_)
  refine sc_putF C hI 2 (ty := (.array .int)) (ws' := [(q15, .inl (ca 0, 120, .inl (fun _ => 0))), (q7, .inl (ca 0, 120, .inl (fun _ => 0))), (h0, .inr (0, [.ref q7, .ref q15, .null, .null, .null, .int 0]))]) rfl rfl 1 (by decide) wf_X0_15 rfl rfl (by decide +kernel) rfl rfl (Nat.le_of_ble_eq_true rfl) rfl dX0_init_17 ?_
  refine sc_aload_n C dX0_init_20 0 rfl rfl ?_
  refine sc_bipush C dX0_init_21 (by decide) (fun k21 ek21 => ?_)
  refine sc_newi C 120 (by omega) (by decide) (Nat.le_of_ble_eq_true rfl) (Nat.le_of_ble_eq_true rfl) dX0_init_23 (fun q23 hK23 => ?_)
  refine sc_putF C hI 3 (ty := (.array .int)) (ws' := [(q23, .inl (ca 0, 120, .inl (fun _ => 0))), (q15, .inl (ca 0, 120, .inl (fun _ => 0))), (q7, .inl (ca 0, 120, .inl (fun _ => 0))), (h0, .inr (0, [.ref q7, .ref q15, .ref q23, .null, .null, .int 0]))]) rfl rfl 2 (by decide) wf_X0_18 rfl rfl (by decide +kernel) rfl rfl (Nat.le_of_ble_eq_true rfl) rfl dX0_init_25 ?_
  refine sc_aload_n C dX0_init_28 0 rfl rfl ?_
  refine sc_bipush C dX0_init_29 (by decide) (fun k29 ek29 => ?_)
  refine sc_newz C 120 (by omega) (by decide) (Nat.le_of_ble_eq_true rfl) (Nat.le_of_ble_eq_true rfl) dX0_init_31 (fun q31 hK31 => ?_)
  refine sc_putF C hI 4 (ty := (.array .boolean)) (ws' := [(q31, .inl (ca 1, 120, .inl (fun _ => 0))), (q23, .inl (ca 0, 120, .inl (fun _ => 0))), (q15, .inl (ca 0, 120, .inl (fun _ => 0))), (q7, .inl (ca 0, 120, .inl (fun _ => 0))), (h0, .inr (0, [.ref q7, .ref q15, .ref q23, .ref q31, .null, .int 0]))]) rfl rfl 3 (by decide) wf_X0_21 rfl rfl (by decide +kernel) rfl rfl (Nat.le_of_ble_eq_true rfl) rfl dX0_init_33 ?_
  refine sc_aload_n C dX0_init_36 0 rfl rfl ?_
  refine sc_bipush C dX0_init_37 (by decide) (fun k37 ek37 => ?_)
  refine sc_newi C 120 (by omega) (by decide) (Nat.le_of_ble_eq_true rfl) (Nat.le_of_ble_eq_true rfl) dX0_init_39 (fun q39 hK39 => ?_)
  refine sc_putF C hI 5 (ty := (.array .int)) (ws' := [(q39, .inl (ca 0, 120, .inl (fun _ => 0))), (q31, .inl (ca 1, 120, .inl (fun _ => 0))), (q23, .inl (ca 0, 120, .inl (fun _ => 0))), (q15, .inl (ca 0, 120, .inl (fun _ => 0))), (q7, .inl (ca 0, 120, .inl (fun _ => 0))), (h0, .inr (0, [.ref q7, .ref q15, .ref q23, .ref q31, .ref q39, .int 0]))]) rfl rfl 4 (by decide) wf_X0_25 rfl rfl (by decide +kernel) rfl rfl (Nat.le_of_ble_eq_true rfl) rfl dX0_init_41 ?_
  exact sc_sub [5, 4, 3, 2, 1, 0] (by decide) rfl rfl (hret (fun i => ([h0, q7, q15, q23, q31, q39] : List Nat).getD i 0) _ _ _ _ (Nat.le_of_ble_eq_true rfl) (Nat.le_of_ble_eq_true rfl) dX0_init_44 (hK7.app hK31))
set_option maxRecDepth 100000 in
set_option maxHeartbeats 4000000 in
theorem c_X1_init (l : Launch) (D : va_G) (ca : Nat → ClassId) (h0 : Nat) : sc_C l yX1_init cX1_init 1 { frames := 1, cells := 1, slots := 4, locals := 12 } D ca (fun _ => True) [.ref h0] (h0, .inr (1, [.null, .int 0, .int 0, .int 0, .int 0])) (fun u => [(h0, .inr (1, [.ref (u 1), .int 0, .int 0, .int 0, .int 0])), ((u 1), .inl (ca 0, 4, .inl (fun _ => 0)))]) [] := by
  refine sc_ent (own := RX1) (by decide) rfl rfl (Nat.le_of_ble_eq_true rfl) (fun X A C hI _ hret => ?_)
  show sc_Wd X A 1 D [(h0, .inr (1, [.null, .int 0, .int 0, .int 0, .int 0]))] 0 0 [(0, .ref h0)] 0 []
  refine sc_aload_n C dX1_init_0 0 rfl rfl ?_
  refine sc_objInit C wm_X1_3 (Nat.le_of_ble_eq_true rfl) (Nat.le_of_ble_eq_true rfl) dX1_init_1 ?_
  refine sc_aload_n C dX1_init_4 0 rfl rfl ?_
  refine sc_iconst C dX1_init_5 (by decide) (fun k5 ek5 => ?_)
  refine sc_newi C 4 (by omega) (by decide) (Nat.le_of_ble_eq_true rfl) (Nat.le_of_ble_eq_true rfl) dX1_init_6 (fun q6 hK6 => ?_)
  refine sc_putF C hI 1 (ty := (.array .int)) (ws' := [(q6, .inl (ca 0, 4, .inl (fun _ => 0))), (h0, .inr (1, [.ref q6, .int 0, .int 0, .int 0, .int 0]))]) rfl rfl 0 (by decide) wf_X1_9 rfl rfl (by decide +kernel) rfl rfl (Nat.le_of_ble_eq_true rfl) rfl dX1_init_8 ?_
  exact sc_sub [1, 0] (by decide) rfl rfl (hret (fun i => ([h0, q6] : List Nat).getD i 0) _ _ _ _ (Nat.le_of_ble_eq_true rfl) (Nat.le_of_ble_eq_true rfl) dX1_init_11 (sc_Kof C))
set_option maxRecDepth 100000 in
set_option maxHeartbeats 4000000 in
theorem c_X2_init (l : Launch) (D : va_G) (ca : Nat → ClassId) (h0 c : Nat) : sc_C l yX2_init cX2_init 2 { frames := 1, cells := 1, slots := 120, locals := 12 } D ca (fun _ => True) [.ref h0, .ref c] (h0, .inr (2, [.null, .null, .int 0, .int 0, .int 0, .int 0])) (fun u => [(h0, .inr (2, [.ref c, .ref (u 1), .int 0, .int 0, .int 0, .int 0])), ((u 1), .inl (ca 0, 120, .inl (fun _ => 0)))]) [] := by
  refine sc_ent (own := RX2) (by decide) rfl rfl (Nat.le_of_ble_eq_true rfl) (fun X A C hI _ hret => ?_)
  show sc_Wd X A 2 D [(h0, .inr (2, [.null, .null, .int 0, .int 0, .int 0, .int 0]))] 0 0 [(0, .ref h0), (1, .ref c)] 0 []
  refine sc_aload_n C dX2_init_0 0 rfl rfl ?_
  refine sc_objInit C wm_X2_3 (Nat.le_of_ble_eq_true rfl) (Nat.le_of_ble_eq_true rfl) dX2_init_1 ?_
  refine sc_aload_n C dX2_init_4 0 rfl rfl ?_
  refine sc_bipush C dX2_init_5 (by decide) (fun k5 ek5 => ?_)
  refine sc_newi C 120 (by omega) (by decide) (Nat.le_of_ble_eq_true rfl) (Nat.le_of_ble_eq_true rfl) dX2_init_7 (fun q7 hK7 => ?_)
  refine sc_putF C hI 1 (ty := (.array .int)) (ws' := [(q7, .inl (ca 0, 120, .inl (fun _ => 0))), (h0, .inr (2, [.null, .ref q7, .int 0, .int 0, .int 0, .int 0]))]) rfl rfl 1 (by decide) wf_X2_9 rfl rfl (by decide +kernel) rfl rfl (Nat.le_of_ble_eq_true rfl) rfl dX2_init_9 ?_
  refine sc_aload_n C dX2_init_12 0 rfl rfl ?_
  refine sc_aload_n C dX2_init_13 1 rfl rfl ?_
  refine sc_putF C hI 1 (ty := (.object RX0)) (ws' := [(q7, .inl (ca 0, 120, .inl (fun _ => 0))), (h0, .inr (2, [.ref c, .ref q7, .int 0, .int 0, .int 0, .int 0]))]) rfl rfl 0 (by decide) wf_X2_15 rfl rfl (by decide +kernel) rfl rfl (Nat.le_of_ble_eq_true rfl) rfl dX2_init_14 ?_
  exact sc_sub [1, 0] (by decide) rfl rfl (hret (fun i => ([h0, q7] : List Nat).getD i 0) _ _ _ _ (Nat.le_of_ble_eq_true rfl) (Nat.le_of_ble_eq_true rfl) dX2_init_17 (sc_Kof C))
set_option maxRecDepth 100000 in
set_option maxHeartbeats 4000000 in
theorem c_X3_init (l : Launch) (D : va_G) (ca : Nat → ClassId) (h0 : Nat) : sc_C l yX3_init cX3_init 1 { frames := 1, cells := 2, slots := 240, locals := 12 } D ca (fun _ => True) [.ref h0] (h0, .inr (3, [.null, .null, .int 0, .int 0])) (fun u => [(h0, .inr (3, [.ref (u 1), .ref (u 2), .int 0, .int 0])), ((u 1), .inl (ca 0, 120, .inl (fun _ => 0))), ((u 2), .inl (ca 0, 120, .inl (fun _ => 0)))]) [] := by
  refine sc_ent (own := RX3) (by decide) rfl rfl (Nat.le_of_ble_eq_true rfl) (fun X A C hI _ hret => ?_)
  show sc_Wd X A 1 D [(h0, .inr (3, [.null, .null, .int 0, .int 0]))] 0 0 [(0, .ref h0)] 0 []
  refine sc_aload_n C dX3_init_0 0 rfl rfl ?_
  refine sc_objInit C wm_X3_3 (Nat.le_of_ble_eq_true rfl) (Nat.le_of_ble_eq_true rfl) dX3_init_1 ?_
  refine sc_aload_n C dX3_init_4 0 rfl rfl ?_
  refine sc_bipush C dX3_init_5 (by decide) (fun k5 ek5 => ?_)
  refine sc_newi C 120 (by omega) (by decide) (Nat.le_of_ble_eq_true rfl) (Nat.le_of_ble_eq_true rfl) dX3_init_7 (fun q7 hK7 => ?_)
  refine sc_putF C hI 1 (ty := (.array .int)) (ws' := [(q7, .inl (ca 0, 120, .inl (fun _ => 0))), (h0, .inr (3, [.ref q7, .null, .int 0, .int 0]))]) rfl rfl 0 (by decide) wf_X3_9 rfl rfl (by decide +kernel) rfl rfl (Nat.le_of_ble_eq_true rfl) rfl dX3_init_9 ?_
  refine sc_aload_n C dX3_init_12 0 rfl rfl ?_
  refine sc_bipush C dX3_init_13 (by decide) (fun k13 ek13 => ?_)
  refine sc_newi C 120 (by omega) (by decide) (Nat.le_of_ble_eq_true rfl) (Nat.le_of_ble_eq_true rfl) dX3_init_15 (fun q15 hK15 => ?_)
  refine sc_putF C hI 2 (ty := (.array .int)) (ws' := [(q15, .inl (ca 0, 120, .inl (fun _ => 0))), (q7, .inl (ca 0, 120, .inl (fun _ => 0))), (h0, .inr (3, [.ref q7, .ref q15, .int 0, .int 0]))]) rfl rfl 1 (by decide) wf_X3_15 rfl rfl (by decide +kernel) rfl rfl (Nat.le_of_ble_eq_true rfl) rfl dX3_init_17 ?_
  exact sc_sub [2, 1, 0] (by decide) rfl rfl (hret (fun i => ([h0, q7, q15] : List Nat).getD i 0) _ _ _ _ (Nat.le_of_ble_eq_true rfl) (Nat.le_of_ble_eq_true rfl) dX3_init_20 (sc_Kof C))
def sd_z : sd_Mem := fun i => match i with
  | 7 => sc_pf sc_id 24
  | 8 => upd (upd (upd (fun _ => 0) 0 30) 2 (-1)) 4 1
  | 81 => sc_pf (fun _ => -1) 24
  | 82 => upd (upd (upd (fun _ => 0) 0 30) 2 (-1)) 4 1
  | _ => fun _ => 0
def sc_N (U : State) : Prop := va_Nw (.methodLinkNest RX4 9 yX0_init "SittingDesk") U ∧ va_Nw (.methodLinkNest RX4 44 yX1_init "SittingDesk") U ∧ va_Nw (.methodLinkNest RX4 51 yX3_init "SittingDesk") U ∧ va_AO RX1 U ∧ va_AO RX2 U
set_option maxRecDepth 100000 in
set_option maxHeartbeats 4000000 in
theorem c_X5_init (l : Launch) (D : va_G) (ca : Nat → ClassId) (h0 : Nat) : sc_C l yX5_init cX5_init 2 { frames := 1, cells := 16, slots := 1046, locals := 12 } D ca (fun _ => True) [.ref h0] (h0, .inr (5, [.int 0, .null, .null, .null, .null, .null, .null, .int 0, .null, .null, .null, .null, .null, .null, .null, .int 0, .int 0, .int 0, .null, .int 0, .null, .null, .int 0])) (fun u => [(h0, .inr (5, [.int 0, .ref (u 1), .ref (u 2), .ref (u 3), .ref (u 4), .ref (u 5), .ref (u 6), .int 0, .ref (u 7), .ref (u 8), .ref (u 9), .ref (u 10), .ref (u 11), .ref (u 12), .ref (u 13), .int 0, .int 0, .int 0, .ref (u 14), .int 0, .ref (u 15), .ref (u 16), .int 0])), ((u 1), .inl (ca 0, 120, .inl (fun _ => 0))), ((u 2), .inl (ca 0, 120, .inl (fun _ => 0))), ((u 3), .inl (ca 0, 120, .inl (fun _ => 0))), ((u 4), .inl (ca 1, 120, .inl (fun _ => 0))), ((u 5), .inl (ca 0, 24, .inl (sc_pf (fun _ => -1) 24))), ((u 6), .inl (ca 0, 6, .inl (upd (upd (upd (fun _ => 0) 0 30) 2 (-1)) 4 1))), ((u 7), .inl (ca 1, 6, .inl (fun _ => 0))), ((u 8), .inl (ca 0, 6, .inl (fun _ => 0))), ((u 9), .inl (ca 0, 6, .inl (fun _ => 0))), ((u 10), .inl (ca 0, 6, .inl (fun _ => 0))), ((u 11), .inl (ca 0, 24, .inl (fun _ => 0))), ((u 12), .inl (ca 0, 120, .inl (fun _ => 0))), ((u 13), .inl (ca 0, 120, .inl (fun _ => 0))), ((u 14), .inl (ca 0, 8, .inl (fun _ => 0))), ((u 15), .inl (ca 0, 120, .inl (fun _ => 0))), ((u 16), .inl (ca 0, 120, .inl (fun _ => 0)))]) [] := by
  refine sc_ent (own := RX5) (by decide) rfl rfl (Nat.le_of_ble_eq_true rfl) (fun X A C hI _ hret => ?_)
  show sc_Wd X A 2 D [(h0, .inr (5, [.int 0, .null, .null, .null, .null, .null, .null, .int 0, .null, .null, .null, .null, .null, .null, .null, .int 0, .int 0, .int 0, .null, .int 0, .null, .null, .int 0]))] 0 0 [(0, .ref h0)] 0 []
  refine sc_aload_n C dX5_init_0 0 rfl rfl ?_
  refine sc_objInit C wm_X5_1 (Nat.le_of_ble_eq_true rfl) (Nat.le_of_ble_eq_true rfl) dX5_init_1 ?_
  refine sc_aload_n C dX5_init_4 0 rfl rfl ?_
  refine sc_bipush C dX5_init_5 (by decide) (fun k5 ek5 => ?_)
  refine sc_newi C 120 (by omega) (by decide) (Nat.le_of_ble_eq_true rfl) (Nat.le_of_ble_eq_true rfl) dX5_init_7 (fun q7 hK7 => ?_)
  refine sc_putF C hI 1 (ty := (.array .int)) (ws' := [(q7, .inl (ca 0, 120, .inl (fun _ => 0))), (h0, .inr (5, [.int 0, .ref q7, .null, .null, .null, .null, .null, .int 0, .null, .null, .null, .null, .null, .null, .null, .int 0, .int 0, .int 0, .null, .int 0, .null, .null, .int 0]))]) rfl rfl 1 (by decide) wf_X5_7 rfl rfl (by decide +kernel) rfl rfl (Nat.le_of_ble_eq_true rfl) rfl dX5_init_9 ?_
  refine sc_aload_n C dX5_init_12 0 rfl rfl ?_
  refine sc_bipush C dX5_init_13 (by decide) (fun k13 ek13 => ?_)
  refine sc_newi C 120 (by omega) (by decide) (Nat.le_of_ble_eq_true rfl) (Nat.le_of_ble_eq_true rfl) dX5_init_15 (fun q15 hK15 => ?_)
  refine sc_putF C hI 2 (ty := (.array .int)) (ws' := [(q15, .inl (ca 0, 120, .inl (fun _ => 0))), (q7, .inl (ca 0, 120, .inl (fun _ => 0))), (h0, .inr (5, [.int 0, .ref q7, .ref q15, .null, .null, .null, .null, .int 0, .null, .null, .null, .null, .null, .null, .null, .int 0, .int 0, .int 0, .null, .int 0, .null, .null, .int 0]))]) rfl rfl 2 (by decide) wf_X5_13 rfl rfl (by decide +kernel) rfl rfl (Nat.le_of_ble_eq_true rfl) rfl dX5_init_17 ?_
  refine sc_aload_n C dX5_init_20 0 rfl rfl ?_
  refine sc_bipush C dX5_init_21 (by decide) (fun k21 ek21 => ?_)
  refine sc_newi C 120 (by omega) (by decide) (Nat.le_of_ble_eq_true rfl) (Nat.le_of_ble_eq_true rfl) dX5_init_23 (fun q23 hK23 => ?_)
  refine sc_putF C hI 3 (ty := (.array .int)) (ws' := [(q23, .inl (ca 0, 120, .inl (fun _ => 0))), (q15, .inl (ca 0, 120, .inl (fun _ => 0))), (q7, .inl (ca 0, 120, .inl (fun _ => 0))), (h0, .inr (5, [.int 0, .ref q7, .ref q15, .ref q23, .null, .null, .null, .int 0, .null, .null, .null, .null, .null, .null, .null, .int 0, .int 0, .int 0, .null, .int 0, .null, .null, .int 0]))]) rfl rfl 3 (by decide) wf_X5_16 rfl rfl (by decide +kernel) rfl rfl (Nat.le_of_ble_eq_true rfl) rfl dX5_init_25 ?_
  refine sc_aload_n C dX5_init_28 0 rfl rfl ?_
  refine sc_bipush C dX5_init_29 (by decide) (fun k29 ek29 => ?_)
  refine sc_newz C 120 (by omega) (by decide) (Nat.le_of_ble_eq_true rfl) (Nat.le_of_ble_eq_true rfl) dX5_init_31 (fun q31 hK31 => ?_)
  refine sc_putF C hI 4 (ty := (.array .boolean)) (ws' := [(q31, .inl (ca 1, 120, .inl (fun _ => 0))), (q23, .inl (ca 0, 120, .inl (fun _ => 0))), (q15, .inl (ca 0, 120, .inl (fun _ => 0))), (q7, .inl (ca 0, 120, .inl (fun _ => 0))), (h0, .inr (5, [.int 0, .ref q7, .ref q15, .ref q23, .ref q31, .null, .null, .int 0, .null, .null, .null, .null, .null, .null, .null, .int 0, .int 0, .int 0, .null, .int 0, .null, .null, .int 0]))]) rfl rfl 4 (by decide) wf_X5_19 rfl rfl (by decide +kernel) rfl rfl (Nat.le_of_ble_eq_true rfl) rfl dX5_init_33 ?_
  refine sc_aload_n C dX5_init_36 0 rfl rfl ?_
  refine sc_bipush C dX5_init_37 (by decide) (fun k37 ek37 => ?_)
  refine sc_newi C 24 (by omega) (by decide) (Nat.le_of_ble_eq_true rfl) (Nat.le_of_ble_eq_true rfl) dX5_init_39 (fun q39 hK39 => ?_)
  refine sc_putF C hI 5 (ty := (.array .int)) (ws' := [(q39, .inl (ca 0, 24, .inl (fun _ => 0))), (q31, .inl (ca 1, 120, .inl (fun _ => 0))), (q23, .inl (ca 0, 120, .inl (fun _ => 0))), (q15, .inl (ca 0, 120, .inl (fun _ => 0))), (q7, .inl (ca 0, 120, .inl (fun _ => 0))), (h0, .inr (5, [.int 0, .ref q7, .ref q15, .ref q23, .ref q31, .ref q39, .null, .int 0, .null, .null, .null, .null, .null, .null, .null, .int 0, .int 0, .int 0, .null, .int 0, .null, .null, .int 0]))]) rfl rfl 5 (by decide) wf_X5_23 rfl rfl (by decide +kernel) rfl rfl (Nat.le_of_ble_eq_true rfl) rfl dX5_init_41 ?_
  refine sc_aload_n C dX5_init_44 0 rfl rfl ?_
  refine sc_bipush C dX5_init_45 (by decide) (fun k45 ek45 => ?_)
  refine sc_newi C 6 (by omega) (by decide) (Nat.le_of_ble_eq_true rfl) (Nat.le_of_ble_eq_true rfl) dX5_init_47 (fun q47 hK47 => ?_)
  refine sc_putF C hI 6 (ty := (.array .int)) (ws' := [(q47, .inl (ca 0, 6, .inl (fun _ => 0))), (q39, .inl (ca 0, 24, .inl (fun _ => 0))), (q31, .inl (ca 1, 120, .inl (fun _ => 0))), (q23, .inl (ca 0, 120, .inl (fun _ => 0))), (q15, .inl (ca 0, 120, .inl (fun _ => 0))), (q7, .inl (ca 0, 120, .inl (fun _ => 0))), (h0, .inr (5, [.int 0, .ref q7, .ref q15, .ref q23, .ref q31, .ref q39, .ref q47, .int 0, .null, .null, .null, .null, .null, .null, .null, .int 0, .int 0, .int 0, .null, .int 0, .null, .null, .int 0]))]) rfl rfl 6 (by decide) wf_X5_26 rfl rfl (by decide +kernel) rfl rfl (Nat.le_of_ble_eq_true rfl) rfl dX5_init_49 ?_
  refine sc_aload_n C dX5_init_52 0 rfl rfl ?_
  refine sc_bipush C dX5_init_53 (by decide) (fun k53 ek53 => ?_)
  refine sc_newz C 6 (by omega) (by decide) (Nat.le_of_ble_eq_true rfl) (Nat.le_of_ble_eq_true rfl) dX5_init_55 (fun q55 hK55 => ?_)
  refine sc_putF C hI 7 (ty := (.array .boolean)) (ws' := [(q55, .inl (ca 1, 6, .inl (fun _ => 0))), (q47, .inl (ca 0, 6, .inl (fun _ => 0))), (q39, .inl (ca 0, 24, .inl (fun _ => 0))), (q31, .inl (ca 1, 120, .inl (fun _ => 0))), (q23, .inl (ca 0, 120, .inl (fun _ => 0))), (q15, .inl (ca 0, 120, .inl (fun _ => 0))), (q7, .inl (ca 0, 120, .inl (fun _ => 0))), (h0, .inr (5, [.int 0, .ref q7, .ref q15, .ref q23, .ref q31, .ref q39, .ref q47, .int 0, .ref q55, .null, .null, .null, .null, .null, .null, .int 0, .int 0, .int 0, .null, .int 0, .null, .null, .int 0]))]) rfl rfl 8 (by decide) wf_X5_29 rfl rfl (by decide +kernel) rfl rfl (Nat.le_of_ble_eq_true rfl) rfl dX5_init_57 ?_
  refine sc_aload_n C dX5_init_60 0 rfl rfl ?_
  refine sc_bipush C dX5_init_61 (by decide) (fun k61 ek61 => ?_)
  refine sc_newi C 6 (by omega) (by decide) (Nat.le_of_ble_eq_true rfl) (Nat.le_of_ble_eq_true rfl) dX5_init_63 (fun q63 hK63 => ?_)
  refine sc_putF C hI 8 (ty := (.array .int)) (ws' := [(q63, .inl (ca 0, 6, .inl (fun _ => 0))), (q55, .inl (ca 1, 6, .inl (fun _ => 0))), (q47, .inl (ca 0, 6, .inl (fun _ => 0))), (q39, .inl (ca 0, 24, .inl (fun _ => 0))), (q31, .inl (ca 1, 120, .inl (fun _ => 0))), (q23, .inl (ca 0, 120, .inl (fun _ => 0))), (q15, .inl (ca 0, 120, .inl (fun _ => 0))), (q7, .inl (ca 0, 120, .inl (fun _ => 0))), (h0, .inr (5, [.int 0, .ref q7, .ref q15, .ref q23, .ref q31, .ref q39, .ref q47, .int 0, .ref q55, .ref q63, .null, .null, .null, .null, .null, .int 0, .int 0, .int 0, .null, .int 0, .null, .null, .int 0]))]) rfl rfl 9 (by decide) wf_X5_32 rfl rfl (by decide +kernel) rfl rfl (Nat.le_of_ble_eq_true rfl) rfl dX5_init_65 ?_
  refine sc_aload_n C dX5_init_68 0 rfl rfl ?_
  refine sc_bipush C dX5_init_69 (by decide) (fun k69 ek69 => ?_)
  refine sc_newi C 6 (by omega) (by decide) (Nat.le_of_ble_eq_true rfl) (Nat.le_of_ble_eq_true rfl) dX5_init_71 (fun q71 hK71 => ?_)
  refine sc_putF C hI 9 (ty := (.array .int)) (ws' := [(q71, .inl (ca 0, 6, .inl (fun _ => 0))), (q63, .inl (ca 0, 6, .inl (fun _ => 0))), (q55, .inl (ca 1, 6, .inl (fun _ => 0))), (q47, .inl (ca 0, 6, .inl (fun _ => 0))), (q39, .inl (ca 0, 24, .inl (fun _ => 0))), (q31, .inl (ca 1, 120, .inl (fun _ => 0))), (q23, .inl (ca 0, 120, .inl (fun _ => 0))), (q15, .inl (ca 0, 120, .inl (fun _ => 0))), (q7, .inl (ca 0, 120, .inl (fun _ => 0))), (h0, .inr (5, [.int 0, .ref q7, .ref q15, .ref q23, .ref q31, .ref q39, .ref q47, .int 0, .ref q55, .ref q63, .ref q71, .null, .null, .null, .null, .int 0, .int 0, .int 0, .null, .int 0, .null, .null, .int 0]))]) rfl rfl 10 (by decide) wf_X5_35 rfl rfl (by decide +kernel) rfl rfl (Nat.le_of_ble_eq_true rfl) rfl dX5_init_73 ?_
  refine sc_aload_n C dX5_init_76 0 rfl rfl ?_
  refine sc_bipush C dX5_init_77 (by decide) (fun k77 ek77 => ?_)
  refine sc_newi C 6 (by omega) (by decide) (Nat.le_of_ble_eq_true rfl) (Nat.le_of_ble_eq_true rfl) dX5_init_79 (fun q79 hK79 => ?_)
  refine sc_putF C hI 10 (ty := (.array .int)) (ws' := [(q79, .inl (ca 0, 6, .inl (fun _ => 0))), (q71, .inl (ca 0, 6, .inl (fun _ => 0))), (q63, .inl (ca 0, 6, .inl (fun _ => 0))), (q55, .inl (ca 1, 6, .inl (fun _ => 0))), (q47, .inl (ca 0, 6, .inl (fun _ => 0))), (q39, .inl (ca 0, 24, .inl (fun _ => 0))), (q31, .inl (ca 1, 120, .inl (fun _ => 0))), (q23, .inl (ca 0, 120, .inl (fun _ => 0))), (q15, .inl (ca 0, 120, .inl (fun _ => 0))), (q7, .inl (ca 0, 120, .inl (fun _ => 0))), (h0, .inr (5, [.int 0, .ref q7, .ref q15, .ref q23, .ref q31, .ref q39, .ref q47, .int 0, .ref q55, .ref q63, .ref q71, .ref q79, .null, .null, .null, .int 0, .int 0, .int 0, .null, .int 0, .null, .null, .int 0]))]) rfl rfl 11 (by decide) wf_X5_38 rfl rfl (by decide +kernel) rfl rfl (Nat.le_of_ble_eq_true rfl) rfl dX5_init_81 ?_
  refine sc_aload_n C dX5_init_84 0 rfl rfl ?_
  refine sc_bipush C dX5_init_85 (by decide) (fun k85 ek85 => ?_)
  refine sc_newi C 24 (by omega) (by decide) (Nat.le_of_ble_eq_true rfl) (Nat.le_of_ble_eq_true rfl) dX5_init_87 (fun q87 hK87 => ?_)
  refine sc_putF C hI 11 (ty := (.array .int)) (ws' := [(q87, .inl (ca 0, 24, .inl (fun _ => 0))), (q79, .inl (ca 0, 6, .inl (fun _ => 0))), (q71, .inl (ca 0, 6, .inl (fun _ => 0))), (q63, .inl (ca 0, 6, .inl (fun _ => 0))), (q55, .inl (ca 1, 6, .inl (fun _ => 0))), (q47, .inl (ca 0, 6, .inl (fun _ => 0))), (q39, .inl (ca 0, 24, .inl (fun _ => 0))), (q31, .inl (ca 1, 120, .inl (fun _ => 0))), (q23, .inl (ca 0, 120, .inl (fun _ => 0))), (q15, .inl (ca 0, 120, .inl (fun _ => 0))), (q7, .inl (ca 0, 120, .inl (fun _ => 0))), (h0, .inr (5, [.int 0, .ref q7, .ref q15, .ref q23, .ref q31, .ref q39, .ref q47, .int 0, .ref q55, .ref q63, .ref q71, .ref q79, .ref q87, .null, .null, .int 0, .int 0, .int 0, .null, .int 0, .null, .null, .int 0]))]) rfl rfl 12 (by decide) wf_X5_41 rfl rfl (by decide +kernel) rfl rfl (Nat.le_of_ble_eq_true rfl) rfl dX5_init_89 ?_
  refine sc_aload_n C dX5_init_92 0 rfl rfl ?_
  refine sc_bipush C dX5_init_93 (by decide) (fun k93 ek93 => ?_)
  refine sc_newi C 120 (by omega) (by decide) (Nat.le_of_ble_eq_true rfl) (Nat.le_of_ble_eq_true rfl) dX5_init_95 (fun q95 hK95 => ?_)
  refine sc_putF C hI 12 (ty := (.array .int)) (ws' := [(q95, .inl (ca 0, 120, .inl (fun _ => 0))), (q87, .inl (ca 0, 24, .inl (fun _ => 0))), (q79, .inl (ca 0, 6, .inl (fun _ => 0))), (q71, .inl (ca 0, 6, .inl (fun _ => 0))), (q63, .inl (ca 0, 6, .inl (fun _ => 0))), (q55, .inl (ca 1, 6, .inl (fun _ => 0))), (q47, .inl (ca 0, 6, .inl (fun _ => 0))), (q39, .inl (ca 0, 24, .inl (fun _ => 0))), (q31, .inl (ca 1, 120, .inl (fun _ => 0))), (q23, .inl (ca 0, 120, .inl (fun _ => 0))), (q15, .inl (ca 0, 120, .inl (fun _ => 0))), (q7, .inl (ca 0, 120, .inl (fun _ => 0))), (h0, .inr (5, [.int 0, .ref q7, .ref q15, .ref q23, .ref q31, .ref q39, .ref q47, .int 0, .ref q55, .ref q63, .ref q71, .ref q79, .ref q87, .ref q95, .null, .int 0, .int 0, .int 0, .null, .int 0, .null, .null, .int 0]))]) rfl rfl 13 (by decide) wf_X5_44 rfl rfl (by decide +kernel) rfl rfl (Nat.le_of_ble_eq_true rfl) rfl dX5_init_97 ?_
  refine sc_aload_n C dX5_init_100 0 rfl rfl ?_
  refine sc_bipush C dX5_init_101 (by decide) (fun k101 ek101 => ?_)
  refine sc_newi C 120 (by omega) (by decide) (Nat.le_of_ble_eq_true rfl) (Nat.le_of_ble_eq_true rfl) dX5_init_103 (fun q103 hK103 => ?_)
  refine sc_putF C hI 13 (ty := (.array .int)) (ws' := [(q103, .inl (ca 0, 120, .inl (fun _ => 0))), (q95, .inl (ca 0, 120, .inl (fun _ => 0))), (q87, .inl (ca 0, 24, .inl (fun _ => 0))), (q79, .inl (ca 0, 6, .inl (fun _ => 0))), (q71, .inl (ca 0, 6, .inl (fun _ => 0))), (q63, .inl (ca 0, 6, .inl (fun _ => 0))), (q55, .inl (ca 1, 6, .inl (fun _ => 0))), (q47, .inl (ca 0, 6, .inl (fun _ => 0))), (q39, .inl (ca 0, 24, .inl (fun _ => 0))), (q31, .inl (ca 1, 120, .inl (fun _ => 0))), (q23, .inl (ca 0, 120, .inl (fun _ => 0))), (q15, .inl (ca 0, 120, .inl (fun _ => 0))), (q7, .inl (ca 0, 120, .inl (fun _ => 0))), (h0, .inr (5, [.int 0, .ref q7, .ref q15, .ref q23, .ref q31, .ref q39, .ref q47, .int 0, .ref q55, .ref q63, .ref q71, .ref q79, .ref q87, .ref q95, .ref q103, .int 0, .int 0, .int 0, .null, .int 0, .null, .null, .int 0]))]) rfl rfl 14 (by decide) wf_X5_47 rfl rfl (by decide +kernel) rfl rfl (Nat.le_of_ble_eq_true rfl) rfl dX5_init_105 ?_
  refine sc_aload_n C dX5_init_108 0 rfl rfl ?_
  refine sc_bipush C dX5_init_109 (by decide) (fun k109 ek109 => ?_)
  refine sc_newi C 8 (by omega) (by decide) (Nat.le_of_ble_eq_true rfl) (Nat.le_of_ble_eq_true rfl) dX5_init_111 (fun q111 hK111 => ?_)
  refine sc_putF C hI 14 (ty := (.array .int)) (ws' := [(q111, .inl (ca 0, 8, .inl (fun _ => 0))), (q103, .inl (ca 0, 120, .inl (fun _ => 0))), (q95, .inl (ca 0, 120, .inl (fun _ => 0))), (q87, .inl (ca 0, 24, .inl (fun _ => 0))), (q79, .inl (ca 0, 6, .inl (fun _ => 0))), (q71, .inl (ca 0, 6, .inl (fun _ => 0))), (q63, .inl (ca 0, 6, .inl (fun _ => 0))), (q55, .inl (ca 1, 6, .inl (fun _ => 0))), (q47, .inl (ca 0, 6, .inl (fun _ => 0))), (q39, .inl (ca 0, 24, .inl (fun _ => 0))), (q31, .inl (ca 1, 120, .inl (fun _ => 0))), (q23, .inl (ca 0, 120, .inl (fun _ => 0))), (q15, .inl (ca 0, 120, .inl (fun _ => 0))), (q7, .inl (ca 0, 120, .inl (fun _ => 0))), (h0, .inr (5, [.int 0, .ref q7, .ref q15, .ref q23, .ref q31, .ref q39, .ref q47, .int 0, .ref q55, .ref q63, .ref q71, .ref q79, .ref q87, .ref q95, .ref q103, .int 0, .int 0, .int 0, .ref q111, .int 0, .null, .null, .int 0]))]) rfl rfl 18 (by decide) wf_X5_50 rfl rfl (by decide +kernel) rfl rfl (Nat.le_of_ble_eq_true rfl) rfl dX5_init_113 ?_
  refine sc_aload_n C dX5_init_116 0 rfl rfl ?_
  refine sc_bipush C dX5_init_117 (by decide) (fun k117 ek117 => ?_)
  refine sc_newi C 120 (by omega) (by decide) (Nat.le_of_ble_eq_true rfl) (Nat.le_of_ble_eq_true rfl) dX5_init_119 (fun q119 hK119 => ?_)
  refine sc_putF C hI 15 (ty := (.array .int)) (ws' := [(q119, .inl (ca 0, 120, .inl (fun _ => 0))), (q111, .inl (ca 0, 8, .inl (fun _ => 0))), (q103, .inl (ca 0, 120, .inl (fun _ => 0))), (q95, .inl (ca 0, 120, .inl (fun _ => 0))), (q87, .inl (ca 0, 24, .inl (fun _ => 0))), (q79, .inl (ca 0, 6, .inl (fun _ => 0))), (q71, .inl (ca 0, 6, .inl (fun _ => 0))), (q63, .inl (ca 0, 6, .inl (fun _ => 0))), (q55, .inl (ca 1, 6, .inl (fun _ => 0))), (q47, .inl (ca 0, 6, .inl (fun _ => 0))), (q39, .inl (ca 0, 24, .inl (fun _ => 0))), (q31, .inl (ca 1, 120, .inl (fun _ => 0))), (q23, .inl (ca 0, 120, .inl (fun _ => 0))), (q15, .inl (ca 0, 120, .inl (fun _ => 0))), (q7, .inl (ca 0, 120, .inl (fun _ => 0))), (h0, .inr (5, [.int 0, .ref q7, .ref q15, .ref q23, .ref q31, .ref q39, .ref q47, .int 0, .ref q55, .ref q63, .ref q71, .ref q79, .ref q87, .ref q95, .ref q103, .int 0, .int 0, .int 0, .ref q111, .int 0, .ref q119, .null, .int 0]))]) rfl rfl 20 (by decide) wf_X5_53 rfl rfl (by decide +kernel) rfl rfl (Nat.le_of_ble_eq_true rfl) rfl dX5_init_121 ?_
  refine sc_aload_n C dX5_init_124 0 rfl rfl ?_
  refine sc_bipush C dX5_init_125 (by decide) (fun k125 ek125 => ?_)
  refine sc_newi C 120 (by omega) (by decide) (Nat.le_of_ble_eq_true rfl) (Nat.le_of_ble_eq_true rfl) dX5_init_127 (fun q127 hK127 => ?_)
  refine sc_putF C hI 16 (ty := (.array .int)) (ws' := [(q127, .inl (ca 0, 120, .inl (fun _ => 0))), (q119, .inl (ca 0, 120, .inl (fun _ => 0))), (q111, .inl (ca 0, 8, .inl (fun _ => 0))), (q103, .inl (ca 0, 120, .inl (fun _ => 0))), (q95, .inl (ca 0, 120, .inl (fun _ => 0))), (q87, .inl (ca 0, 24, .inl (fun _ => 0))), (q79, .inl (ca 0, 6, .inl (fun _ => 0))), (q71, .inl (ca 0, 6, .inl (fun _ => 0))), (q63, .inl (ca 0, 6, .inl (fun _ => 0))), (q55, .inl (ca 1, 6, .inl (fun _ => 0))), (q47, .inl (ca 0, 6, .inl (fun _ => 0))), (q39, .inl (ca 0, 24, .inl (fun _ => 0))), (q31, .inl (ca 1, 120, .inl (fun _ => 0))), (q23, .inl (ca 0, 120, .inl (fun _ => 0))), (q15, .inl (ca 0, 120, .inl (fun _ => 0))), (q7, .inl (ca 0, 120, .inl (fun _ => 0))), (h0, .inr (5, [.int 0, .ref q7, .ref q15, .ref q23, .ref q31, .ref q39, .ref q47, .int 0, .ref q55, .ref q63, .ref q71, .ref q79, .ref q87, .ref q95, .ref q103, .int 0, .int 0, .int 0, .ref q111, .int 0, .ref q119, .ref q127, .int 0]))]) rfl rfl 21 (by decide) wf_X5_56 rfl rfl (by decide +kernel) rfl rfl (Nat.le_of_ble_eq_true rfl) rfl dX5_init_129 ?_
  refine sc_iconst C dX5_init_132 (by decide) (fun k132 ek132 => ?_)
  refine sc_istore_n C dX5_init_133 rfl (by decide) rfl ?_
  have hKi := hK7
  have key134 : ∀ (fu : Nat) (y1 : Int32) (k : Nat), (y1.toInt = (k : Int)) → (k ≤ 24) → (24 - k < fu) → sc_Wd X A 2 D [(q127, .inl (ca 0, 120, .inl (fun _ => 0))), (q119, .inl (ca 0, 120, .inl (fun _ => 0))), (q111, .inl (ca 0, 8, .inl (fun _ => 0))), (q103, .inl (ca 0, 120, .inl (fun _ => 0))), (q95, .inl (ca 0, 120, .inl (fun _ => 0))), (q87, .inl (ca 0, 24, .inl (fun _ => 0))), (q79, .inl (ca 0, 6, .inl (fun _ => 0))), (q71, .inl (ca 0, 6, .inl (fun _ => 0))), (q63, .inl (ca 0, 6, .inl (fun _ => 0))), (q55, .inl (ca 1, 6, .inl (fun _ => 0))), (q47, .inl (ca 0, 6, .inl (fun _ => 0))), (q39, .inl (ca 0, 24, .inl (sc_pf (fun _ => -1) k))), (q31, .inl (ca 1, 120, .inl (fun _ => 0))), (q23, .inl (ca 0, 120, .inl (fun _ => 0))), (q15, .inl (ca 0, 120, .inl (fun _ => 0))), (q7, .inl (ca 0, 120, .inl (fun _ => 0))), (h0, .inr (5, [.int 0, .ref q7, .ref q15, .ref q23, .ref q31, .ref q39, .ref q47, .int 0, .ref q55, .ref q63, .ref q71, .ref q79, .ref q87, .ref q95, .ref q103, .int 0, .int 0, .int 0, .ref q111, .int 0, .ref q119, .ref q127, .int 0]))] 16 1046 [(1, .int y1), (0, .ref h0)] 134 [] := by
    intro fu
    induction fu with
    | zero => intro y1 k h1 hk hm; exact absurd hm (Nat.not_lt_zero _)
    | succ fu ih =>
      intro y1 k h1 hk hm
      refine sc_iload_n C dX5_init_134 0 rfl rfl ?_
      refine sc_bipush C dX5_init_135 (by decide) (fun k135 ek135 => ?_)
      refine sc_icmp_ge C 153 dX5_init_137 (by decide) (fun c137 => ?_) (fun c137 => ?_)
      · have ek : k = 24 := by omega
        subst ek
        refine sc_aload_n C dX5_init_153 1 rfl rfl ?_
        refine sc_get C 16 rfl rfl 6 (by decide) rfl wf_X5_26 dX5_init_154 ?_
        refine sc_iconst C dX5_init_157 (by decide) (fun k157 ek157 => ?_)
        refine sc_bipush C dX5_init_158 (by decide) (fun k158 ek158 => ?_)
        have ek158 : k158 = 30 := Int32.toInt_inj.mp (by rw [ek158]; rfl)
        subst ek158
        refine sc_iast C hKi 10 rfl 0 ⟨by omega, by decide⟩ (ws' := [(q127, .inl (ca 0, 120, .inl (fun _ => 0))), (q119, .inl (ca 0, 120, .inl (fun _ => 0))), (q111, .inl (ca 0, 8, .inl (fun _ => 0))), (q103, .inl (ca 0, 120, .inl (fun _ => 0))), (q95, .inl (ca 0, 120, .inl (fun _ => 0))), (q87, .inl (ca 0, 24, .inl (fun _ => 0))), (q79, .inl (ca 0, 6, .inl (fun _ => 0))), (q71, .inl (ca 0, 6, .inl (fun _ => 0))), (q63, .inl (ca 0, 6, .inl (fun _ => 0))), (q55, .inl (ca 1, 6, .inl (fun _ => 0))), (q47, .inl (ca 0, 6, .inl (upd (fun _ => 0) 0 (30)))), (q39, .inl (ca 0, 24, .inl (sc_pf (fun _ => -1) 24))), (q31, .inl (ca 1, 120, .inl (fun _ => 0))), (q23, .inl (ca 0, 120, .inl (fun _ => 0))), (q15, .inl (ca 0, 120, .inl (fun _ => 0))), (q7, .inl (ca 0, 120, .inl (fun _ => 0))), (h0, .inr (5, [.int 0, .ref q7, .ref q15, .ref q23, .ref q31, .ref q39, .ref q47, .int 0, .ref q55, .ref q63, .ref q71, .ref q79, .ref q87, .ref q95, .ref q103, .int 0, .int 0, .int 0, .ref q111, .int 0, .ref q119, .ref q127, .int 0]))]) rfl dX5_init_160 ?_
        refine sc_aload_n C dX5_init_161 1 rfl rfl ?_
        refine sc_get C 16 rfl rfl 6 (by decide) rfl wf_X5_26 dX5_init_162 ?_
        refine sc_iconst C dX5_init_165 (by decide) (fun k165 ek165 => ?_)
        refine sc_iconst C dX5_init_166 (by decide) (fun k166 ek166 => ?_)
        have ek166 : k166 = -1 := Int32.toInt_inj.mp (by rw [ek166]; rfl)
        subst ek166
        refine sc_iast C hKi 10 rfl 2 ⟨by omega, by decide⟩ (ws' := [(q127, .inl (ca 0, 120, .inl (fun _ => 0))), (q119, .inl (ca 0, 120, .inl (fun _ => 0))), (q111, .inl (ca 0, 8, .inl (fun _ => 0))), (q103, .inl (ca 0, 120, .inl (fun _ => 0))), (q95, .inl (ca 0, 120, .inl (fun _ => 0))), (q87, .inl (ca 0, 24, .inl (fun _ => 0))), (q79, .inl (ca 0, 6, .inl (fun _ => 0))), (q71, .inl (ca 0, 6, .inl (fun _ => 0))), (q63, .inl (ca 0, 6, .inl (fun _ => 0))), (q55, .inl (ca 1, 6, .inl (fun _ => 0))), (q47, .inl (ca 0, 6, .inl (upd (upd (fun _ => 0) 0 (30)) 2 (-1)))), (q39, .inl (ca 0, 24, .inl (sc_pf (fun _ => -1) 24))), (q31, .inl (ca 1, 120, .inl (fun _ => 0))), (q23, .inl (ca 0, 120, .inl (fun _ => 0))), (q15, .inl (ca 0, 120, .inl (fun _ => 0))), (q7, .inl (ca 0, 120, .inl (fun _ => 0))), (h0, .inr (5, [.int 0, .ref q7, .ref q15, .ref q23, .ref q31, .ref q39, .ref q47, .int 0, .ref q55, .ref q63, .ref q71, .ref q79, .ref q87, .ref q95, .ref q103, .int 0, .int 0, .int 0, .ref q111, .int 0, .ref q119, .ref q127, .int 0]))]) rfl dX5_init_167 ?_
        refine sc_aload_n C dX5_init_168 1 rfl rfl ?_
        refine sc_get C 16 rfl rfl 6 (by decide) rfl wf_X5_26 dX5_init_169 ?_
        refine sc_iconst C dX5_init_172 (by decide) (fun k172 ek172 => ?_)
        refine sc_iconst C dX5_init_173 (by decide) (fun k173 ek173 => ?_)
        have ek173 : k173 = 1 := Int32.toInt_inj.mp (by rw [ek173]; rfl)
        subst ek173
        refine sc_iast C hKi 10 rfl 4 ⟨by omega, by decide⟩ (ws' := [(q127, .inl (ca 0, 120, .inl (fun _ => 0))), (q119, .inl (ca 0, 120, .inl (fun _ => 0))), (q111, .inl (ca 0, 8, .inl (fun _ => 0))), (q103, .inl (ca 0, 120, .inl (fun _ => 0))), (q95, .inl (ca 0, 120, .inl (fun _ => 0))), (q87, .inl (ca 0, 24, .inl (fun _ => 0))), (q79, .inl (ca 0, 6, .inl (fun _ => 0))), (q71, .inl (ca 0, 6, .inl (fun _ => 0))), (q63, .inl (ca 0, 6, .inl (fun _ => 0))), (q55, .inl (ca 1, 6, .inl (fun _ => 0))), (q47, .inl (ca 0, 6, .inl (upd (upd (upd (fun _ => 0) 0 (30)) 2 (-1)) 4 (1)))), (q39, .inl (ca 0, 24, .inl (sc_pf (fun _ => -1) 24))), (q31, .inl (ca 1, 120, .inl (fun _ => 0))), (q23, .inl (ca 0, 120, .inl (fun _ => 0))), (q15, .inl (ca 0, 120, .inl (fun _ => 0))), (q7, .inl (ca 0, 120, .inl (fun _ => 0))), (h0, .inr (5, [.int 0, .ref q7, .ref q15, .ref q23, .ref q31, .ref q39, .ref q47, .int 0, .ref q55, .ref q63, .ref q71, .ref q79, .ref q87, .ref q95, .ref q103, .int 0, .int 0, .int 0, .ref q111, .int 0, .ref q119, .ref q127, .int 0]))]) rfl dX5_init_174 ?_
        exact sc_sub [16, 15, 14, 13, 12, 11, 10, 9, 8, 7, 6, 5, 4, 3, 2, 1, 0] (by decide) rfl rfl (hret (fun i => ([h0, q7, q15, q23, q31, q39, q47, q55, q63, q71, q79, q87, q95, q103, q111, q119, q127] : List Nat).getD i 0) _ _ _ _ (Nat.le_of_ble_eq_true rfl) (Nat.le_of_ble_eq_true rfl) dX5_init_175 (sc_Kof C))
      · refine sc_aload_n C dX5_init_140 1 rfl rfl ?_
        refine sc_get C 16 rfl rfl 5 (by decide) rfl wf_X5_23 dX5_init_141 ?_
        refine sc_iload_n C dX5_init_144 0 rfl rfl ?_
        refine sc_iconst C dX5_init_145 (by decide) (fun k145 ek145 => ?_)
        have ek145b : k145 = -1 := Int32.toInt_inj.mp (by rw [ek145]; rfl)
        refine sc_iast C hKi 11 rfl k ⟨h1, by omega⟩ (ws' := [(q127, .inl (ca 0, 120, .inl (fun _ => 0))), (q119, .inl (ca 0, 120, .inl (fun _ => 0))), (q111, .inl (ca 0, 8, .inl (fun _ => 0))), (q103, .inl (ca 0, 120, .inl (fun _ => 0))), (q95, .inl (ca 0, 120, .inl (fun _ => 0))), (q87, .inl (ca 0, 24, .inl (fun _ => 0))), (q79, .inl (ca 0, 6, .inl (fun _ => 0))), (q71, .inl (ca 0, 6, .inl (fun _ => 0))), (q63, .inl (ca 0, 6, .inl (fun _ => 0))), (q55, .inl (ca 1, 6, .inl (fun _ => 0))), (q47, .inl (ca 0, 6, .inl (fun _ => 0))), (q39, .inl (ca 0, 24, .inl (sc_pf (fun _ => -1) (k + 1)))), (q31, .inl (ca 1, 120, .inl (fun _ => 0))), (q23, .inl (ca 0, 120, .inl (fun _ => 0))), (q15, .inl (ca 0, 120, .inl (fun _ => 0))), (q7, .inl (ca 0, 120, .inl (fun _ => 0))), (h0, .inr (5, [.int 0, .ref q7, .ref q15, .ref q23, .ref q31, .ref q39, .ref q47, .int 0, .ref q55, .ref q63, .ref q71, .ref q79, .ref q87, .ref q95, .ref q103, .int 0, .int 0, .int 0, .ref q111, .int 0, .ref q119, .ref q127, .int 0]))]) (by rw [sc_pf_up (fun _ => -1) k ek145b] <;> rfl) dX5_init_146 ?_
        refine sc_iinc C dX5_init_147 0 rfl (by decide) (by decide) (by omega) (fun zz => [(1, .int zz), (0, .ref h0)]) (fun _ => rfl) (fun u147 eu147 => ?_)
        refine sc_goto C 134 dX5_init_150 (by decide) ?_
        exact ih u147 (k + 1) (by omega) (by omega) (by omega)
  refine sc_eqw (ws' := [(q127, .inl (ca 0, 120, .inl (fun _ => 0))), (q119, .inl (ca 0, 120, .inl (fun _ => 0))), (q111, .inl (ca 0, 8, .inl (fun _ => 0))), (q103, .inl (ca 0, 120, .inl (fun _ => 0))), (q95, .inl (ca 0, 120, .inl (fun _ => 0))), (q87, .inl (ca 0, 24, .inl (fun _ => 0))), (q79, .inl (ca 0, 6, .inl (fun _ => 0))), (q71, .inl (ca 0, 6, .inl (fun _ => 0))), (q63, .inl (ca 0, 6, .inl (fun _ => 0))), (q55, .inl (ca 1, 6, .inl (fun _ => 0))), (q47, .inl (ca 0, 6, .inl (fun _ => 0))), (q39, .inl (ca 0, 24, .inl (sc_pf (fun _ => -1) 0))), (q31, .inl (ca 1, 120, .inl (fun _ => 0))), (q23, .inl (ca 0, 120, .inl (fun _ => 0))), (q15, .inl (ca 0, 120, .inl (fun _ => 0))), (q7, .inl (ca 0, 120, .inl (fun _ => 0))), (h0, .inr (5, [.int 0, .ref q7, .ref q15, .ref q23, .ref q31, .ref q39, .ref q47, .int 0, .ref q55, .ref q63, .ref q71, .ref q79, .ref q87, .ref q95, .ref q103, .int 0, .int 0, .int 0, .ref q111, .int 0, .ref q119, .ref q127, .int 0]))]) (by rw [sc_pf_0]) ?_
  exact key134 _ k132 0 (by omega) (by omega) (Nat.lt_succ_self _)

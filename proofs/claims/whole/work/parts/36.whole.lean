/-! THE CLAIM OUT OF ONE WALK OF THE LAW'S BODY. Your part is whole_start (and what it stands on); all else here is the same for every law, but numbers. -/
def R_law : String := "SittingDeskLaw"
def lw_P (b : Addr) (xs : List Int32) (args : Array Value) (s : State) : Prop := args = #[.ref b] ∧ s.IntsAt b xs ∧ xs.length ≤ 2560 ∧ (Jvm.Cond.and given_1 narrow_1).before args s = true
def lw_Q (_ : Array Value) (s : State) (o : Outcome) (t : State) : Prop := o = .returned (some (.int 1)) ∧ Framed s o t [] 600000 7302250
def lw_Z (below : List Frame) (a : Array Value) (s : State) : State → Prop := fun t => ∃ o, t.status = .running ∧ Ended t below o ∧ lw_Q a s o t
/-- the law's own end, with 1 on the stack, nothing written that was there before, its room as the claim has it -/
theorem lw_ret {p : Program} {l : Launch} {e : Env} {s : State} {m : MethodId} {below : List Frame} {meth : Method} {c : Code} {b : Nat} (hx : p.tables.exec = Jvm.exec) (hb : c.code = code) (hr : meth.sig.returnType = ret) (hlocks : meth.locks = false) {pc : Nat} {H : Heap} {ls : Array Slot} (hdg : decode code pc = .ok (.ireturn, 1)) : W p l e room_1 s m #[Value.ref b] below meth c H [] 600000 7302250 (lw_Z below #[Value.ref b] s) (F0 m pc ls [.int 1]) := by
  intro T hT X
  obtain ⟨fs, hret, hrun, hended, hW, hframe⟩ := X.leave (v := some (.int 1)) (hlocks := hlocks) (fun h => by rw [hr] at h; cases h)
  have hmeth' : T.vm.method? m = some meth := X.method'
  refine ⟨T.setFrames fs, ?_, .returned (some (.int 1)), hrun, hended, rfl, ⟨_, rfl⟩, hW, hframe⟩
  jvm_step X.here [X.here.top, hx, hb, hdg, hmeth', hr, ret, narrow_b1]
  (try refine ⟨rfl, ?_⟩); (try refine ⟨rfl, ?_⟩)
  first | (intro acts; rw [hret _ acts rfl rfl rfl]) | rw [hret _ _ rfl rfl rfl]
  exact Steps.refl _
/-- what holds at the law's entry: the machine, the code, the tables' words (any of lw_tbl by 'hts w (by decide +kernel)'), the script of L ints xs at the cell b, what the Statement gives of the start (any of its parts by flat_of_before) -/
def lw_At (p : Program) (s : State) (m : MethodId) (meth : Method) (c : Code) (b L : Nat) (xs : Nat → Int32) : Prop :=
  p.tables.exec = Jvm.exec ∧ c.code = code ∧ meth.sig.returnType = ret ∧ c.maxLocals = 4 ∧ s.vm.findClass R_law = some m.cls ∧ (∀ w ∈ lw_tbl, w.before #[Value.ref b] s = true) ∧ va_X b L xs s s.heap ∧ b < s.heap.size ∧ meth.locks = false ∧ (Jvm.Cond.and given_1 narrow_1).before #[Value.ref b] s = true
def sc_ad (q0 q8 : Nat) (u4 u12 : Nat → Nat) : Nat → Nat := fun i => if i = 0 then q0 else if i < 76 then u4 i else if i = 76 then q8 else u12 (i - 76)
def sc_pi5 (k : Nat) : Nat := if k < 76 then 17 + k else k - 76
theorem sc_pi5_inj : ∀ i, i < 93 → ∀ j, j < 93 → sc_pi5 i = sc_pi5 j → i = j := fun i hi j hj h => by
  unfold sc_pi5 at h
  split at h <;> split at h <;> omega
set_option maxRecDepth 100000 in
set_option maxHeartbeats 8000000 in
theorem sc_93 {ca : Nat → ClassId} {q0 q8 : Nat} {u4 u12 : Nat → Nat} : ∀ k, k < 93 → ((([(q8, .inr (5, [.int 0, .ref (u12 1), .ref (u12 2), .ref (u12 3), .ref (u12 4), .ref (u12 5), .ref (u12 6), .int 0, .ref (u12 7), .ref (u12 8), .ref (u12 9), .ref (u12 10), .ref (u12 11), .ref (u12 12), .ref (u12 13), .int 0, .int 0, .int 0, .ref (u12 14), .int 0, .ref (u12 15), .ref (u12 16), .int 0])), ((u12 1), .inl (ca 0, 120, .inl (fun _ => 0))), ((u12 2), .inl (ca 0, 120, .inl (fun _ => 0))), ((u12 3), .inl (ca 0, 120, .inl (fun _ => 0))), ((u12 4), .inl (ca 1, 120, .inl (fun _ => 0))), ((u12 5), .inl (ca 0, 24, .inl (sc_pf (fun _ => -1) 24))), ((u12 6), .inl (ca 0, 6, .inl (upd (upd (upd (fun _ => 0) 0 30) 2 (-1)) 4 1))), ((u12 7), .inl (ca 1, 6, .inl (fun _ => 0))), ((u12 8), .inl (ca 0, 6, .inl (fun _ => 0))), ((u12 9), .inl (ca 0, 6, .inl (fun _ => 0))), ((u12 10), .inl (ca 0, 6, .inl (fun _ => 0))), ((u12 11), .inl (ca 0, 24, .inl (fun _ => 0))), ((u12 12), .inl (ca 0, 120, .inl (fun _ => 0))), ((u12 13), .inl (ca 0, 120, .inl (fun _ => 0))), ((u12 14), .inl (ca 0, 8, .inl (fun _ => 0))), ((u12 15), .inl (ca 0, 120, .inl (fun _ => 0))), ((u12 16), .inl (ca 0, 120, .inl (fun _ => 0)))] : va_W) ++ ((List.range 76).map (fun i => ((if i = 0 then q0 else u4 i : Nat), sd_cell (fun i => if i = 0 then q0 else u4 i) ca i (sd_z i))) ++ [])).set 26 (u4 9, .inl (ca 3, 24, .inr (.inr (.inr (.inr (fun p => some (sc_ad q0 q8 u4 u12 (16 + p)))))))) |>.set 29 (u4 12, .inl (ca 2, 6, .inr (.inr (.inr (.inr (fun p => some (sc_ad q0 q8 u4 u12 (64 + p)))))))))[sc_pi5 k]? = (sd_w (sc_ad q0 q8 u4 u12) ca sd_z)[k]? := by
  intro k hk
  match k, hk with
  | 0, _ => rfl
  | 1, _ => rfl
  | 2, _ => rfl
  | 3, _ => rfl
  | 4, _ => rfl
  | 5, _ => rfl
  | 6, _ => rfl
  | 7, _ => rfl
  | 8, _ => rfl
  | 9, _ => rfl
  | 10, _ => rfl
  | 11, _ => rfl
  | 12, _ => rfl
  | 13, _ => rfl
  | 14, _ => rfl
  | 15, _ => rfl
  | 16, _ => rfl
  | 17, _ => rfl
  | 18, _ => rfl
  | 19, _ => rfl
  | 20, _ => rfl
  | 21, _ => rfl
  | 22, _ => rfl
  | 23, _ => rfl
  | 24, _ => rfl
  | 25, _ => rfl
  | 26, _ => rfl
  | 27, _ => rfl
  | 28, _ => rfl
  | 29, _ => rfl
  | 30, _ => rfl
  | 31, _ => rfl
  | 32, _ => rfl
  | 33, _ => rfl
  | 34, _ => rfl
  | 35, _ => rfl
  | 36, _ => rfl
  | 37, _ => rfl
  | 38, _ => rfl
  | 39, _ => rfl
  | 40, _ => rfl
  | 41, _ => rfl
  | 42, _ => rfl
  | 43, _ => rfl
  | 44, _ => rfl
  | 45, _ => rfl
  | 46, _ => rfl
  | 47, _ => rfl
  | 48, _ => rfl
  | 49, _ => rfl
  | 50, _ => rfl
  | 51, _ => rfl
  | 52, _ => rfl
  | 53, _ => rfl
  | 54, _ => rfl
  | 55, _ => rfl
  | 56, _ => rfl
  | 57, _ => rfl
  | 58, _ => rfl
  | 59, _ => rfl
  | 60, _ => rfl
  | 61, _ => rfl
  | 62, _ => rfl
  | 63, _ => rfl
  | 64, _ => rfl
  | 65, _ => rfl
  | 66, _ => rfl
  | 67, _ => rfl
  | 68, _ => rfl
  | 69, _ => rfl
  | 70, _ => rfl
  | 71, _ => rfl
  | 72, _ => rfl
  | 73, _ => rfl
  | 74, _ => rfl
  | 75, _ => rfl
  | 76, _ => rfl
  | 77, _ => rfl
  | 78, _ => rfl
  | 79, _ => rfl
  | 80, _ => rfl
  | 81, _ => rfl
  | 82, _ => rfl
  | 83, _ => rfl
  | 84, _ => rfl
  | 85, _ => rfl
  | 86, _ => rfl
  | 87, _ => rfl
  | 88, _ => rfl
  | 89, _ => rfl
  | 90, _ => rfl
  | 91, _ => rfl
  | 92, _ => rfl
  | n + 93, h => exact absurd h (by omega)
set_option maxRecDepth 20000 in
theorem lw_Tb {args : Array Value} {s : State} {ad : Nat → Nat} (hts : ∀ w ∈ lw_tbl, w.before args s = true) (hgv : (Jvm.Cond.and given_1 narrow_1).before args s = true) (hA : ∀ a, a < s.heap.size → ¬ sd_A ad a) : ∃ T : Nat → Nat, sd_Tb ad T s s.heap := by
  have hs := flat_of_before _ hgv
  obtain ⟨t0, e0, h0⟩ := va_Tof (tm := (Term.static "SittingDesk" "LEAST_RULE" "[I")) (ty := .int) (N := 6) (f := fun j => .int (sd_t0 j)) (A := sd_A ad) (by decide) (hs (Cond.arrayOf (Term.static "SittingDesk" "LEAST_RULE" "[I") .int) (by decide +kernel)) (va_eqv (hs (Cond.eq (Term.length (Term.static "SittingDesk" "LEAST_RULE" "[I")) (Term.int 6)) (by decide +kernel)) rfl) (fun j hj => by
    rcases (show j = 0 ∨ j = 1 ∨ j = 2 ∨ j = 3 ∨ j = 4 ∨ j = 5 by omega) with rfl | rfl | rfl | rfl | rfl | rfl
    · exact va_eqv (hs (Cond.eq (Term.elem (Term.static "SittingDesk" "LEAST_RULE" "[I") (Term.int 0)) (Term.int (0))) (by decide +kernel)) rfl
    · exact va_eqv (hs (Cond.eq (Term.elem (Term.static "SittingDesk" "LEAST_RULE" "[I") (Term.int 1)) (Term.int (0))) (by decide +kernel)) rfl
    · exact va_eqv (hs (Cond.eq (Term.elem (Term.static "SittingDesk" "LEAST_RULE" "[I") (Term.int 2)) (Term.int (-1))) (by decide +kernel)) rfl
    · exact va_eqv (hs (Cond.eq (Term.elem (Term.static "SittingDesk" "LEAST_RULE" "[I") (Term.int 3)) (Term.int (0))) (by decide +kernel)) rfl
    · exact va_eqv (hs (Cond.eq (Term.elem (Term.static "SittingDesk" "LEAST_RULE" "[I") (Term.int 4)) (Term.int (1))) (by decide +kernel)) rfl
    · exact va_eqv (hs (Cond.eq (Term.elem (Term.static "SittingDesk" "LEAST_RULE" "[I") (Term.int 5)) (Term.int (0))) (by decide +kernel)) rfl) hA
  have z0 := va_Zof (A := sd_A ad) (hts (Cond.laysStatic "SittingDesk" "LEAST_RULE" "[I") (List.mem_append_right _ (List.mem_append_left _ (List.mem_of_getElem? (i := 239) rfl)))) (hts (Cond.initialized "SittingDesk") (List.mem_append_right _ (List.mem_append_left _ (List.mem_of_getElem? (i := 1) rfl)))) e0 hA
  obtain ⟨t1, e1, h1⟩ := va_Tof (tm := (Term.static "SittingDesk" "GREATEST_RULE" "[I")) (ty := .int) (N := 6) (f := fun j => .int (sd_t1 j)) (A := sd_A ad) (by decide) (hs (Cond.arrayOf (Term.static "SittingDesk" "GREATEST_RULE" "[I") .int) (by decide +kernel)) (va_eqv (hs (Cond.eq (Term.length (Term.static "SittingDesk" "GREATEST_RULE" "[I")) (Term.int 6)) (by decide +kernel)) rfl) (fun j hj => by
    rcases (show j = 0 ∨ j = 1 ∨ j = 2 ∨ j = 3 ∨ j = 4 ∨ j = 5 by omega) with rfl | rfl | rfl | rfl | rfl | rfl
    · exact va_eqv (hs (Cond.eq (Term.elem (Term.static "SittingDesk" "GREATEST_RULE" "[I") (Term.int 0)) (Term.int (10000))) (by decide +kernel)) rfl
    · exact va_eqv (hs (Cond.eq (Term.elem (Term.static "SittingDesk" "GREATEST_RULE" "[I") (Term.int 1)) (Term.int (1))) (by decide +kernel)) rfl
    · exact va_eqv (hs (Cond.eq (Term.elem (Term.static "SittingDesk" "GREATEST_RULE" "[I") (Term.int 2)) (Term.int (7))) (by decide +kernel)) rfl
    · exact va_eqv (hs (Cond.eq (Term.elem (Term.static "SittingDesk" "GREATEST_RULE" "[I") (Term.int 3)) (Term.int (100))) (by decide +kernel)) rfl
    · exact va_eqv (hs (Cond.eq (Term.elem (Term.static "SittingDesk" "GREATEST_RULE" "[I") (Term.int 4)) (Term.int (10000))) (by decide +kernel)) rfl
    · exact va_eqv (hs (Cond.eq (Term.elem (Term.static "SittingDesk" "GREATEST_RULE" "[I") (Term.int 5)) (Term.int (7))) (by decide +kernel)) rfl) hA
  have z1 := va_Zof (A := sd_A ad) (hts (Cond.laysStatic "SittingDesk" "GREATEST_RULE" "[I") (List.mem_append_right _ (List.mem_append_right _ (List.mem_append_left _ (List.mem_of_getElem? (i := 1) rfl))))) (hts (Cond.initialized "SittingDesk") (List.mem_append_right _ (List.mem_append_left _ (List.mem_of_getElem? (i := 1) rfl)))) e1 hA
  obtain ⟨t2, e2, h2⟩ := va_Tof (tm := (Term.static "SittingDesk$Funnel" "JUST_THOSE_AHEAD" "[I")) (ty := .int) (N := 4) (f := fun j => .int (sd_t2 j)) (A := sd_A ad) (by decide) (hs (Cond.arrayOf (Term.static "SittingDesk$Funnel" "JUST_THOSE_AHEAD" "[I") .int) (by decide +kernel)) (va_eqv (hs (Cond.eq (Term.length (Term.static "SittingDesk$Funnel" "JUST_THOSE_AHEAD" "[I")) (Term.int 4)) (by decide +kernel)) rfl) (fun j hj => by
    rcases (show j = 0 ∨ j = 1 ∨ j = 2 ∨ j = 3 by omega) with rfl | rfl | rfl | rfl
    · exact va_eqv (hs (Cond.eq (Term.elem (Term.static "SittingDesk$Funnel" "JUST_THOSE_AHEAD" "[I") (Term.int 0)) (Term.int (1))) (by decide +kernel)) rfl
    · exact va_eqv (hs (Cond.eq (Term.elem (Term.static "SittingDesk$Funnel" "JUST_THOSE_AHEAD" "[I") (Term.int 1)) (Term.int (2))) (by decide +kernel)) rfl
    · exact va_eqv (hs (Cond.eq (Term.elem (Term.static "SittingDesk$Funnel" "JUST_THOSE_AHEAD" "[I") (Term.int 2)) (Term.int (8))) (by decide +kernel)) rfl
    · exact va_eqv (hs (Cond.eq (Term.elem (Term.static "SittingDesk$Funnel" "JUST_THOSE_AHEAD" "[I") (Term.int 3)) (Term.int (128))) (by decide +kernel)) rfl) hA
  have z2 := va_Zof (A := sd_A ad) (hts (Cond.laysStatic "SittingDesk$Funnel" "JUST_THOSE_AHEAD" "[I") (List.mem_append_right _ (List.mem_append_right _ (List.mem_append_left _ (List.mem_of_getElem? (i := 87) rfl))))) (hts (Cond.initialized "SittingDesk$Funnel") (List.mem_append_right _ (List.mem_append_left _ (List.mem_of_getElem? (i := 4) rfl)))) e2 hA
  obtain ⟨t3, e3, h3⟩ := va_Tof (tm := (Term.static "SittingDesk$Funnel" "ALL_WITHOUT" "[I")) (ty := .int) (N := 4) (f := fun j => .int (sd_t3 j)) (A := sd_A ad) (by decide) (hs (Cond.arrayOf (Term.static "SittingDesk$Funnel" "ALL_WITHOUT" "[I") .int) (by decide +kernel)) (va_eqv (hs (Cond.eq (Term.length (Term.static "SittingDesk$Funnel" "ALL_WITHOUT" "[I")) (Term.int 4)) (by decide +kernel)) rfl) (fun j hj => by
    rcases (show j = 0 ∨ j = 1 ∨ j = 2 ∨ j = 3 by omega) with rfl | rfl | rfl | rfl
    · exact va_eqv (hs (Cond.eq (Term.elem (Term.static "SittingDesk$Funnel" "ALL_WITHOUT" "[I") (Term.int 0)) (Term.int (21845))) (by decide +kernel)) rfl
    · exact va_eqv (hs (Cond.eq (Term.elem (Term.static "SittingDesk$Funnel" "ALL_WITHOUT" "[I") (Term.int 1)) (Term.int (13107))) (by decide +kernel)) rfl
    · exact va_eqv (hs (Cond.eq (Term.elem (Term.static "SittingDesk$Funnel" "ALL_WITHOUT" "[I") (Term.int 2)) (Term.int (3855))) (by decide +kernel)) rfl
    · exact va_eqv (hs (Cond.eq (Term.elem (Term.static "SittingDesk$Funnel" "ALL_WITHOUT" "[I") (Term.int 3)) (Term.int (255))) (by decide +kernel)) rfl) hA
  have z3 := va_Zof (A := sd_A ad) (hts (Cond.laysStatic "SittingDesk$Funnel" "ALL_WITHOUT" "[I") (List.mem_append_right _ (List.mem_append_right _ (List.mem_append_left _ (List.mem_of_getElem? (i := 89) rfl))))) (hts (Cond.initialized "SittingDesk$Funnel") (List.mem_append_right _ (List.mem_append_left _ (List.mem_of_getElem? (i := 4) rfl)))) e3 hA
  exact ⟨fun k => match k with | 0 => t0 | 1 => t1 | 2 => t2 | _ => t3, ⟨z0, h0⟩, ⟨z1, h1⟩, ⟨z2, h2⟩, ⟨z3, h3⟩⟩
theorem sc_N.same {u U : State} (h : u.vm = U.vm) (hN : sc_N u) : sc_N U := ⟨va_Nw.same rfl h hN.1, va_Nw.same rfl h hN.2.1, va_Nw.same rfl h hN.2.2.1, va_AO.moved (h ▸ Vm.Alike.refl _) hN.2.2.2.1, va_AO.moved (h ▸ Vm.Alike.refl _) hN.2.2.2.2⟩
theorem sc_N.warm {u U : State} (hW : u.WarmedH U.vm) (hN : sc_N u) : sc_N U := ⟨va_Nw.warmM hW hN.1, va_Nw.warmM hW hN.2.1, va_Nw.warmM hW hN.2.2.1, va_AO.moved hW.alike hN.2.2.2.1, va_AO.moved hW.alike hN.2.2.2.2⟩
set_option maxRecDepth 100000 in
set_option maxHeartbeats 8000000 in
theorem whole_start {p : Program} {e : Env} {s : State} {m : MethodId} {below : List Frame} {meth : Method} {c : Code} (l : Launch) {b L : Nat} {xs : Nat → Int32} (hL : L ≤ 2560) (C0 : lw_At p s m meth c b L xs) : W p l e room_1 s m #[Value.ref b] below meth c s.heap [] 0 0 (lw_Z below #[Value.ref b] s) (entryFrame m ([Value.ref b] : List Value).toArray 4) := by
  obtain ⟨hx, hb, hr, hml, hown, hts, hX, hbl, hlocks, hgv⟩ := id C0
  have hg : ∀ w ∈ sd_gt, w.before #[Value.ref b] s = true := fun w hw => hts w (List.mem_filter.mp hw).1
  obtain ⟨c0, iS0, hKn0⟩ := u_known (C := RX0) (T := TX0) (N := 6) (n := 6) hg sd_inX0 (hg _ wa_X0)
  obtain ⟨c1, iS1, hKn1⟩ := u_known (C := RX1) (T := TX1) (N := 5) (n := 5) hg sd_inX1 (hg _ wa_X1)
  obtain ⟨c2, iS2, hKn2⟩ := u_known (C := RX2) (T := TX2) (N := 6) (n := 6) hg sd_inX2 (hg _ wa_X2)
  obtain ⟨c3, iS3, hKn3⟩ := u_known (C := RX3) (T := TX3) (N := 4) (n := 4) hg sd_inX3 (hg _ wa_X3)
  obtain ⟨c4, iS4, hKn4⟩ := u_known (C := RX4) (T := TX4) (N := 9) (n := 9) hg sd_inX4 (hg _ wa_X4)
  obtain ⟨c5, iS5, hKn5⟩ := u_known (C := RX5) (T := TX5) (N := 23) (n := 23) hg sd_inX5 (hg _ wa_X5)
  obtain ⟨D, hKc⟩ : ∃ D : va_G, ∀ (k : Nat) (q : vw_C), vwCl[k]? = some q → u_Kn s q.1 q.2.1 q.2.2 (D.1 k) (D.2 k) := by
    refine ⟨(fun k => match k with | 0 => c0 | 1 => c1 | 2 => c2 | 3 => c3 | 4 => c4 | _ => c5, fun k => match k with | 0 => iS0 | 1 => iS1 | 2 => iS2 | 3 => iS3 | 4 => iS4 | _ => iS5), ?_⟩
    intro k q hq
    match k, hq with
    | 0, hq => cases hq; exact hKn0
    | 1, hq => cases hq; exact hKn1
    | 2, hq => cases hq; exact hKn2
    | 3, hq => cases hq; exact hKn3
    | 4, hq => cases hq; exact hKn4
    | 5, hq => cases hq; exact hKn5
    | k + 6, hq => simp [vwCl] at hq
  have hK : va_K D vwCl [] s := ⟨hKc, fun k q h => by simp at h⟩
  obtain ⟨ca, hk⟩ : ∃ ca : Nat → ClassId, sc_k ca s := by
    refine ⟨fun k => match k with | 0 => (s.vm.findClass ("[" ++ FieldType.int.toString)).getD 0 | 1 => (s.vm.findClass ("[" ++ FieldType.boolean.toString)).getD 0 | 2 => (s.vm.findClass ("[" ++ (FieldType.object RX1).toString)).getD 0 | _ => (s.vm.findClass ("[" ++ (FieldType.object RX2).toString)).getD 0, fun c h => ?_, fun c h => ?_, fun c h => ?_, fun c h => ?_⟩
    all_goals (dsimp only; rw [h]; rfl)
  have hN : sc_N s := ⟨va_Nw.of rfl (hts _ (List.mem_append_right _ (List.mem_append_left _ (List.mem_of_getElem? (i := 18) rfl)))), va_Nw.of rfl (hts _ (List.mem_append_right _ (List.mem_append_left _ (List.mem_of_getElem? (i := 87) rfl)))), va_Nw.of rfl (hts _ (List.mem_append_right _ (List.mem_append_left _ (List.mem_of_getElem? (i := 114) rfl)))), va_AO.of (hts _ (List.mem_append_right _ (List.mem_append_left _ (List.mem_of_getElem? (i := 85) rfl)))), va_AO.of (hts _ (List.mem_append_right _ (List.mem_append_left _ (List.mem_of_getElem? (i := 53) rfl))))⟩
  have C : sc_Cx (p, l, e, room_1, s, m, #[Value.ref b], below, meth, c, 0, 0, lw_Z below #[Value.ref b] s) l cL_law RL room_1 4 (fun q => s.heap.size ≤ q) D ca := ⟨rfl, hx, hb, hown, hml, hg, rfl, hK, hk, fun q h => h⟩
  have hl := lv_entry ([.ref b]) (n := 4) (Nat.le_of_ble_eq_true rfl)
  rw [lg_entry_eq]
  refine (?_ : sc_Wd (p, l, e, room_1, s, m, #[Value.ref b], below, meth, c, 0, 0, lw_Z below #[Value.ref b] s) (fun q => s.heap.size ≤ q) 4 D [] 0 0 [(0, .ref b)] 0 []) s.heap [] _ hl (fun k q h => by simp at h) ⟨fun i j p q h => by simp at h, fun k q h => by simp at h⟩ va_S.rf
  refine sc_new C (ci := 4) (fs := [.null, .null, .null, .null, .null, .null, .null, .int 0, .null]) rfl tyX4 tyX4_ok wl_L_7 wa_X4 wn_X4 dfX4 (Nat.le_of_ble_eq_true rfl) (Nat.le_of_ble_eq_true rfl) dL_law_0 (fun q0 => ?_)
  refine sc_dup C dL_law_3 rfl ?_
  refine sc_callI C (np := 0) (As := []) (rest := [.ref q0]) (c_X4_init l D ca q0) wc_X4_init wn_X4 wm_L_9 wi_X4_init rfl ⟨by decide, by decide, by decide +kernel⟩ ⟨Nat.le_of_ble_eq_true rfl, Nat.le_of_ble_eq_true rfl⟩ (fun u U h q => sc_N.same h q) (fun U hW => sc_N.warm hW hN) rfl rfl (Nat.le_of_ble_eq_true rfl) (Nat.le_of_ble_eq_true rfl) (Nat.le_of_ble_eq_true rfl) dL_law_4 (fun u4 hKt => ?_)
  refine sc_astore_n (lv' := [(1, .ref q0), (0, .ref b)]) C dL_law_7 rfl (by decide) rfl ?_
  refine sc_new C (ci := 5) (fs := [.int 0, .null, .null, .null, .null, .null, .null, .int 0, .null, .null, .null, .null, .null, .null, .null, .int 0, .int 0, .int 0, .null, .int 0, .null, .null, .int 0]) rfl tyX5 tyX5_ok wl_L_10 wa_X5 wn_X5 dfX5 (Nat.le_of_ble_eq_true rfl) (Nat.le_of_ble_eq_true rfl) dL_law_8 (fun q8 => ?_)
  refine sc_dup C dL_law_11 rfl ?_
  refine sc_callI C (np := 0) (As := []) (rest := [.ref q8]) (c_X5_init l D ca q8) wc_X5_init wn_X5 wm_L_12 wi_X5_init rfl ⟨by decide, by decide, by decide +kernel⟩ ⟨Nat.le_of_ble_eq_true rfl, Nat.le_of_ble_eq_true rfl⟩ (fun _ _ _ _ => trivial) (fun _ _ => trivial) rfl rfl (Nat.le_of_ble_eq_true rfl) (Nat.le_of_ble_eq_true rfl) (Nat.le_of_ble_eq_true rfl) dL_law_12 (fun u12 _ => ?_)
  refine sc_astore_n (lv' := [(2, .ref q8), (1, .ref q0), (0, .ref b)]) C dL_law_15 rfl (by decide) rfl ?_
  refine sc_iconst C dL_law_16 (by decide) (fun y0 hy0 => ?_)
  refine sc_istore_n (lv' := [(3, .int y0), (2, .ref q8), (1, .ref q0), (0, .ref b)]) C dL_law_17 rfl (by decide) rfl ?_
  refine sc_qeq 26 (a := u4 9) (n := 24) (cq := ca 3) (f := fun p => some (if 16 + p = 0 then q0 else u4 (16 + p))) (g := fun p => some (sc_ad q0 q8 u4 u12 (16 + p))) rfl (fun j hj => by unfold sc_ad; rw [if_neg (by omega), if_neg (by omega), if_pos (by omega)]) rfl ?_
  refine sc_qeq 29 (a := u4 12) (n := 6) (cq := ca 2) (f := fun p => some (if 64 + p = 0 then q0 else u4 (64 + p))) (g := fun p => some (sc_ad q0 q8 u4 u12 (64 + p))) rfl (fun j hj => by unfold sc_ad; rw [if_neg (by omega), if_neg (by omega), if_pos (by omega)]) rfl ?_
  refine sc_pi (n := 93) sc_pi5 (ws' := sd_w (sc_ad q0 q8 u4 u12) ca sd_z) ?_ (by simp [sd_w]) sc_pi5_inj ?_
  · intro k hk
    exact sc_93 k hk
  · intro H locs ls hl hP hD hS
    have hI : sd_inj (sc_ad q0 q8 u4 u12) := fun i j hi hj hij => hD.1 i j _ _ (sd_w_at hi) (sd_w_at hj) hij
    have hAd : ∀ q, sd_A (sc_ad q0 q8 u4 u12) q → s.heap.size ≤ q := fun q ⟨i, hi, e⟩ => by rw [e]; exact hD.2 i _ (sd_w_at hi)
    obtain ⟨T, hT⟩ := lw_Tb (ad := sc_ad q0 q8 u4 u12) hts hgv (fun a h1 h2 => absurd (hAd a h2) (Nat.not_le.mpr h1))
    refine va_forget (fun q hq => hS.2.2 q hq) ?_
    refine law_loop (X := (p, l, e, room_1, s, m, #[Value.ref b], below, meth, c, _, _, lw_Z below #[Value.ref b] s)) (D := D) (ad := sc_ad q0 q8 u4 u12) (ca := ca) (T := T) (b := b) (L := L) (xs := xs) ⟨rfl, hx, hb, hown, hml, hg, ⟨Nat.le_of_ble_eq_true rfl, Nat.le_of_ble_eq_true rfl, Nat.le_of_ble_eq_true rfl, Nat.le_of_ble_eq_true rfl⟩, hKt, hI, hT⟩ ⟨hX, hbl, fun h => absurd (hAd b h) (Nat.not_le.mpr hbl)⟩ hL (fun σ lv v hv H locs ls _ _ hS => ?_) y0 hy0 H [] ls hl hP ⟨hS.1, fun q h1 _ => hS.2.1 q h1 (Nat.not_le.mpr h1), fun q hq => absurd hq List.not_mem_nil⟩
    have e1 : v = 1 := Int32.toInt_inj.mp (by rw [hv]; rfl)
    subst e1
    refine va_forget (fun q hq => hAd _ (hS.2.2 q hq)) ?_
    refine W.widen (k := 600000) (n := 7302250) (Nat.le_of_ble_eq_true rfl) (Nat.le_of_ble_eq_true rfl) ?_
    exact lw_ret hx hb hr hlocks dL_law_763
set_option maxHeartbeats 4000000 in
theorem lw_walk (l : Launch) (b : Addr) (xs : List Int32) : MetFree l x (headSpec (Jvm.Cond.code x code maxLocals ret :: tables_1) room_1) (lw_P b xs) (fun _ _ _ _ _ => True) lw_Q := by
  refine MetFree.of_bodyS (code := code) (maxLocals := maxLocals) (ret := ret) (by decide) ?_ ?_
  · intro args s m h hn
    obtain ⟨meth, c, h1, h2, h3, h4, h5, h6, -, -⟩ := Cond.code_spec hn (atoms_spec (ws := Jvm.Cond.code x code maxLocals ret :: tables_1) h _ List.mem_cons_self)
    exact ⟨meth, c, h1, h2, h3, h4, h5, h6⟩
  · intro p e s m args below meth c s₁ B hml0 hP _
    obtain ⟨rfl, hx, hbd, hgv⟩ := hP
    obtain ⟨scr, harrAt, hlist, hof, hsmall⟩ := hx
    obtain ⟨hcb, hkn, -, -⟩ := State.arrayAt?_spec harrAt
    have hown : s.vm.findClass R_law = some m.cls := findClass_of_methodNamed B.named
    have hts0 : ∀ c ∈ (Jvm.Cond.code x code maxLocals ret :: tables_1), c.before #[Value.ref b] s = true := atoms_spec (ws := Jvm.Cond.code x code maxLocals ret :: tables_1) B.pre
    have hts : ∀ w ∈ lw_tbl, w.before #[Value.ref b] s = true := k2_hts_sels lw_privs (fun w hw => hts0 w (List.mem_cons_of_mem _ hw)) lw_privs_ok
    have hml : c.maxLocals = 4 := B.maxLocals_eq (hts0 _ List.mem_cons_self)
    have X₀ : Stand p l e room_1 s m #[Value.ref b] below meth c s₁ [] 0 0 := Stand.of_body B
    have hh0 : s₁.heap = s.heap := by rw [B.state]; rfl
    have hsz : scr.slots.size = xs.length := by rw [← Array.length_toList, hlist, List.length_map]
    have hval : ∀ j : Nat, j < xs.length → scr.slots[j]? = some (.int (xs.getD j 0)) := fun j hj => by
      rw [← Array.getElem?_toList, hlist]
      simp [hj]
    have hbl : b < s.heap.size := (Array.getElem?_eq_some_iff.mp hcb).1
    have hX : va_X b xs.length (fun j => xs.getD j 0) s s.heap := ⟨scr, hcb, hof, hkn, hsz, hval⟩
    have K : W p l e room_1 s m #[Value.ref b] below meth c s₁.heap [] 0 0 (lw_Z below #[Value.ref b] s) (entryFrame m ([Value.ref b] : List Value).toArray 4) := by
      rw [hh0]
      exact whole_start l hbd ⟨B.exec, B.bytes, B.returns, hml, hown, hts, hX, hbl, B.notSynchronized, hgv⟩
    obtain ⟨t, a1, o, b1, b2, b3⟩ := K s₁ rfl X₀
    exact ⟨t, o, a1, b1, b2, b3⟩
theorem lw_pre_spec {args : Array Value} {s : State} (h : (Jvm.Cond.and given_1 narrow_1).before args s = true) (hr : rest_1_c.before args s = true) : ∃ (b : Addr) (xs : List Int32), lw_P b xs args s := by
  have hs := flat_of_before _ h
  have hq := flat_of_before _ hr
  have hc : (Cond.count 1).before args s = true := hs _ (by decide +kernel)
  have harr : (Cond.arrayOf (.arg 0) .int).before args s = true := hs _ (by decide +kernel)
  have hle : (Cond.le (.length (.arg 0)) (.int 2560)).before args s = true := hs _ (by decide +kernel)
  have hlen : (Cond.isInt (.length (.arg 0))).before args s = true := hq _ (by decide +kernel)
  have hall : (Cond.all (.arg 0) (.isInt (.elem (.arg 0) (.index 0)))).before args s = true := hq _ (by decide +kernel)
  obtain ⟨b, xs, hb, hx⟩ := State.ints_of_pre rfl harr hlen hall
  have hsm : xs.length < 2 ^ 31 := hx.choose_spec.2.2.2
  have hev : (Term.length (.arg 0)).eval args s none [] s = some (.int xs.length.toInt32) := hx.length_eval hb
  have hv := Cond.le_ints hev (show (Term.int 2560).eval args s none [] s = some (.int 2560) from rfl)
  have hd : xs.length.toInt32 ≤ 2560 := by
    simpa [Cond.before, Cond.holds, hv] using hle
  have hN : xs.length ≤ 2560 := (Int32.ofNat_le_ofNat hsm (by decide)).mp (show Int32.ofNat xs.length ≤ Int32.ofNat 2560 from hd)
  exact ⟨b, xs, Cond.one_arg hc (show args[0]? = some (.ref b) from hb), hx, hN, h⟩
theorem lw_comes (l : Launch) : Comes l x (Jvm.Cond.code x code maxLocals ret :: tables_1) room_1 (fun tb e args s => Calls_1 tb e args s ∧ rest_1 tb e args s ∧ Pre_1 tb e args s)
    (fun _ _ args s o t => lw_Q args s o t) := by
  intro p e ha hc hk s m args below hf hfit hheap happ hpre
  obtain ⟨b, xs, hP⟩ := lw_pre_spec hpre.2.2 hpre.2.1
  obtain ⟨k, o, h1, h2, h3, hQ⟩ := lw_walk l b xs p e ha hc hk s m args below hf ((Spec.applies_iff_loose hf).mp happ).1 hP trivial
  exact ⟨k, o, h1, h2, h3, hQ⟩
theorem lw_frame {s t : State} {o : Outcome} {args : Array Value} (h : Framed s o t [] 600000 7302250) :
    Framed s o t (fieldLocs frame_1_writes args s ++ arrayLocs frame_1_arrays args s ++ staticLocs frame_1_statics s) 600000 7302250 := h
theorem lw_limb (L : Cond) (hL : ∀ (args : Array Value) (s t : State), L.after args s (.returned (some (.int 1))) t = true) :
    ArmFor flags0 classFile x code maxLocals ret World_1 tables_1 room_1 Calls_1 rest_1 Pre_1
      (fun tb e a s o t => postC L tb e a s o t ∧ Framed s o t (fieldLocs frame_1_writes a s ++ arrayLocs frame_1_arrays a s ++ staticLocs frame_1_statics s) 600000 7302250) := by
  intro l _ _ _ p e ha hc hk s m args below hf hfit hheap happ hpre
  obtain ⟨k, o, h1, h2, h3, rfl, hF⟩ := lw_comes l p e ha hc hk s m args below hf hfit hheap happ hpre
  exact ⟨k, _, h1, h2, h3, hL args s _, lw_frame hF⟩
theorem i_vc : Claimed_1_1 ∧ Claimed_1_2 := ⟨lw_limb limb_1_1 (fun args s t => by simp [limb_1_1, Cond.after, Cond.holds, Cond.value]), lw_limb limb_1_2 (fun args s t => Cond.after_iff.mpr (by
  first | (rw [show limb_1_2 = Cond.eq .result (.int 1) from rfl, Cond.eq_ints (x := 1) (y := 1) rfl rfl]; simp; done) | (simp [limb_1_2, Cond.value, Term.eval]; done)))⟩

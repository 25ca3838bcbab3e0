section SDP
variable {X : sd_X} {l : Launch} {cc : ByteArray} {own : String} {k nL : Nat} {D : va_G} {ad : Nat → Nat} {ca : Nat → ClassId} {T : Nat → Nat} {σ : sd_Mem} {lv : List (Nat × Value)} {pc : Nat} {stk : List Value}
theorem sd_nb {x : Int32} (h : x.toInt = 0 ∨ x.toInt = 1) : narrow .boolean (.int x) = .int x := by rcases sd_b01 h with rfl | rfl <;> rfl
theorem sd_fb {x : Int32} (h : x.toInt = 0 ∨ x.toInt = 1) : fits .boolean (.int x) = true := by rcases sd_b01 h with rfl | rfl <;> rfl
theorem sd_pVi (C : sd_Cx X l cc own k nL D ad ca T) {y : MethodName} {b : ByteArray} {n kc' np i ci N idx : Nat} {fs : List Value} {TT : u_T} {As rest : List Value} {P : Int32 → Prop} (hM : sd_Ci l y b n kc' D ad ca T σ (.ref (ad i) :: As) (fun r σ' => σ' = σ ∧ P r)) (mw : sd_MV y b n (some .int) np) (w : Cond.methodLink own idx y ∈ sd_gt) (hi : i < 93) (hc : sd_cell ad ca i (σ i) = .inr (ci, fs)) (hcl : vwCl[ci]? = some (y.cls, TT, N)) (hk : kc' < k) (hAs : As.length = np) (hst : stk = As.reverse ++ .ref (ad i) :: rest) (hr : (rest.map fun v => v.category).sum ≤ 8) (d : decode cc pc = .ok (.invokevirtual idx, 3)) (kk : ∀ r : Int32, P r → sd_Wd X nL D ad ca σ lv (pc + 3) (.int r :: rest)) : sd_Wd X nL D ad ca σ lv pc stk :=
  sd_callVi C hM mw w hi hc hcl hk hAs hst hr d (fun r σ' h => by rw [h.1]; exact kk r h.2)
theorem sd_pVz (C : sd_Cx X l cc own k nL D ad ca T) {y : MethodName} {b : ByteArray} {n kc' np i ci N idx : Nat} {fs : List Value} {TT : u_T} {As rest : List Value} {P : Int32 → Prop} (hM : sd_Cz l y b n kc' D ad ca T σ (.ref (ad i) :: As) (fun r σ' => σ' = σ ∧ P r)) (mw : sd_MV y b n (some .boolean) np) (w : Cond.methodLink own idx y ∈ sd_gt) (hi : i < 93) (hc : sd_cell ad ca i (σ i) = .inr (ci, fs)) (hcl : vwCl[ci]? = some (y.cls, TT, N)) (hk : kc' < k) (hAs : As.length = np) (hst : stk = As.reverse ++ .ref (ad i) :: rest) (hr : (rest.map fun v => v.category).sum ≤ 8) (d : decode cc pc = .ok (.invokevirtual idx, 3)) (kk : ∀ r : Int32, P r → sd_Wd X nL D ad ca σ lv (pc + 3) (.int r :: rest)) : sd_Wd X nL D ad ca σ lv pc stk :=
  sd_callVz C hM mw w hi hc hcl hk hAs hst hr d (fun r σ' h => by rw [h.1]; exact kk r h.2)
theorem sd_pSi (C : sd_Cx X l cc own k nL D ad ca T) {y : MethodName} {b : ByteArray} {n kc' np idx : Nat} {As rest : List Value} {P : Int32 → Prop} (hM : sd_Ci l y b n kc' D ad ca T σ As (fun r σ' => σ' = σ ∧ P r)) (mw : sd_MS y b n (some .int) np) (w : Cond.methodLink own idx y ∈ sd_gt) (hk : kc' < k) (hAs : As.length = np) (hst : stk = As.reverse ++ rest) (hr : (rest.map fun v => v.category).sum ≤ 8) (d : decode cc pc = .ok (.invokestatic idx, 3)) (kk : ∀ r : Int32, P r → sd_Wd X nL D ad ca σ lv (pc + 3) (.int r :: rest)) : sd_Wd X nL D ad ca σ lv pc stk :=
  sd_callSi C hM mw w hk hAs hst hr d (fun r σ' h => by rw [h.1]; exact kk r h.2)
theorem sd_pSz (C : sd_Cx X l cc own k nL D ad ca T) {y : MethodName} {b : ByteArray} {n kc' np idx : Nat} {As rest : List Value} {P : Int32 → Prop} (hM : sd_Cz l y b n kc' D ad ca T σ As (fun r σ' => σ' = σ ∧ P r)) (mw : sd_MS y b n (some .boolean) np) (w : Cond.methodLink own idx y ∈ sd_gt) (hk : kc' < k) (hAs : As.length = np) (hst : stk = As.reverse ++ rest) (hr : (rest.map fun v => v.category).sum ≤ 8) (d : decode cc pc = .ok (.invokestatic idx, 3)) (kk : ∀ r : Int32, P r → sd_Wd X nL D ad ca σ lv (pc + 3) (.int r :: rest)) : sd_Wd X nL D ad ca σ lv pc stk :=
  sd_callSz C hM mw w hk hAs hst hr d (fun r σ' h => by rw [h.1]; exact kk r h.2)
end SDP
theorem sd_lv {X : sd_X} {nL : Nat} {D : va_G} {ad : Nat → Nat} {ca : Nat → ClassId} {σ : sd_Mem} {lv lv' : List (Nat × Value)} {pc : Nat} {stk : List Value} (kk : sd_Wd X nL D ad ca σ lv' pc stk) (ks : List Nat) (h : lv_pick lv ks = lv') : sd_Wd X nL D ad ca σ lv pc stk := by
  obtain ⟨p, l', e, R, s, m, args, below, meth, c, kc, ks', Q⟩ := X
  intro H locs ls hl hP hS
  exact kk H locs ls (lv_sub hl ks h) hP hS
theorem sd_lookD {ps : List (Int × Int)} {d x : Int} (h : ∀ q ∈ ps, x ≠ q.1) : Op.lookupswitch.offset ps d x = d := by
  induction ps with
  | nil => rfl
  | cons a l ih =>
    rw [Op.lookupswitch.offset_cons, if_neg (fun q => h a List.mem_cons_self q.symm)]
    exact ih (fun q hq => h q (List.mem_cons_of_mem _ hq))

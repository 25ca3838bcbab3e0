theorem sd_inX0 : ∀ w ∈ u_ws RX0 TX0 6, w ∈ sd_gt := by decide +kernel
theorem sd_inX1 : ∀ w ∈ u_ws RX1 TX1 5, w ∈ sd_gt := by decide +kernel
theorem sd_inX2 : ∀ w ∈ u_ws RX2 TX2 6, w ∈ sd_gt := by decide +kernel
theorem sd_inX3 : ∀ w ∈ u_ws RX3 TX3 4, w ∈ sd_gt := by decide +kernel
theorem sd_inX4 : ∀ w ∈ u_ws RX4 TX4 9, w ∈ sd_gt := by decide +kernel
theorem sd_inX5 : ∀ w ∈ u_ws RX5 TX5 23, w ∈ sd_gt := by decide +kernel
theorem sd_rng (x : Int32) : -2147483648 ≤ x.toInt ∧ x.toInt < 2147483648 := ⟨Int32.le_toInt x, Int32.toInt_lt x⟩
theorem sd_bmod {z : Int} (h1 : -2147483648 ≤ z) (h2 : z < 2147483648) : z.bmod (2 ^ 32) = z := by
  rw [Int.bmod_eq_of_le] <;> omega
theorem sd_addI {x y : Int32} (h1 : -2147483648 ≤ x.toInt + y.toInt) (h2 : x.toInt + y.toInt < 2147483648) : (x + y).toInt = x.toInt + y.toInt := by
  rw [Int32.toInt_add]; exact sd_bmod h1 h2
theorem sd_subI {x y : Int32} (h1 : -2147483648 ≤ x.toInt - y.toInt) (h2 : x.toInt - y.toInt < 2147483648) : (x - y).toInt = x.toInt - y.toInt := by
  rw [Int32.toInt_sub]; exact sd_bmod h1 h2
theorem sd_mulI {x y : Int32} (h1 : -2147483648 ≤ x.toInt * y.toInt) (h2 : x.toInt * y.toInt < 2147483648) : (x * y).toInt = x.toInt * y.toInt := by
  rw [Int32.toInt_mul]; exact sd_bmod h1 h2
theorem sd_divI {x y : Int32} {n : Int} (hn : 0 < n) (hy : y.toInt = n) (h0 : 0 ≤ x.toInt) : (x / y).toInt = x.toInt / n := by
  have hr := sd_rng x
  rw [Int32.toInt_div, hy, Int.tdiv_eq_ediv_of_nonneg h0]
  have h1 : 0 ≤ x.toInt / n := Int.ediv_nonneg h0 (by omega)
  have h2 : x.toInt / n ≤ x.toInt := Int.ediv_le_self _ h0
  exact sd_bmod (by omega) (by omega)
theorem sd_ilt {x y : Int32} (h : x < y) : x.toInt < y.toInt := Int32.lt_iff_toInt_lt.mp h
theorem sd_inlt {x y : Int32} (h : ¬ x < y) : y.toInt ≤ x.toInt := by
  have h3 : ¬ x.toInt < y.toInt := fun q => h (Int32.lt_iff_toInt_lt.mpr q)
  omega
theorem sd_ile {x y : Int32} (h : x ≤ y) : x.toInt ≤ y.toInt := Int32.le_iff_toInt_le.mp h
theorem sd_inle {x y : Int32} (h : ¬ x ≤ y) : y.toInt < x.toInt := by
  have h3 : ¬ x.toInt ≤ y.toInt := fun q => h (Int32.le_iff_toInt_le.mpr q)
  omega
theorem sd_i0 {x : Int32} (h : x = 0) : x.toInt = 0 := by rw [h]; rfl
theorem sd_i0n {x : Int32} (h : ¬ x = 0) : x.toInt ≠ 0 := fun q => h (Int32.toInt_inj.mp (by rw [q]; rfl))
theorem sd_b01 {v : Int32} (hv : v.toInt = 0 ∨ v.toInt = 1) : v = 0 ∨ v = 1 := by
  rcases hv with h | h
  · exact Or.inl (Int32.toInt_inj.mp (by rw [h]; rfl))
  · exact Or.inr (Int32.toInt_inj.mp (by rw [h]; rfl))
theorem sd_clamp {x : Int32} {j : Nat} (h : x.toInt = (j : Int)) : x.toNatClampNeg = j := by
  show x.toInt.toNat = j
  rw [h]; rfl
theorem sd_vpin {x : Int32} {j n : Nat} (h : x.toInt = (j : Int)) (hj : j < n) : vp_in x n := vp_in_iff.mpr ⟨by omega, by omega⟩
theorem sd_in {ci N : Nat} {Cn : String} {TT : u_T} (h : vwCl[ci]? = some (Cn, TT, N)) : ∀ w ∈ u_ws Cn TT N, w ∈ sd_gt := by
  match ci, h with
  | 0, h => cases h; exact sd_inX0
  | 1, h => cases h; exact sd_inX1
  | 2, h => cases h; exact sd_inX2
  | 3, h => cases h; exact sd_inX3
  | 4, h => cases h; exact sd_inX4
  | 5, h => cases h; exact sd_inX5
  | n + 6, h => simp [vwCl] at h
theorem sd_nmty {ci N : Nat} {Cn : String} {TT : u_T} (h : vwCl[ci]? = some (Cn, TT, N)) : ∃ ty0 : Nat → FieldType, (∀ k, k < N → parseFieldDescriptor (TT k).2.2.1 = some (ty0 k)) ∧ (∀ a, a < N → ∀ b, b < N → a ≠ b → (TT a).2.1 ≠ (TT b).2.1) := by
  match ci, h with
  | 0, h => cases h; exact ⟨tyX0, tyX0_ok, nmX0⟩
  | 1, h => cases h; exact ⟨tyX1, tyX1_ok, nmX1⟩
  | 2, h => cases h; exact ⟨tyX2, tyX2_ok, nmX2⟩
  | 3, h => cases h; exact ⟨tyX3, tyX3_ok, nmX3⟩
  | 4, h => cases h; exact ⟨tyX4, tyX4_ok, nmX4⟩
  | 5, h => cases h; exact ⟨tyX5, tyX5_ok, nmX5⟩
  | n + 6, h => simp [vwCl] at h
theorem sd_gtgood {w : Cond} (h : w ∈ sd_gt) : goodWord w = true := (List.mem_filter.mp h).2
theorem sd_good {pre : List Cond} {c : Cond} (h : ∀ w ∈ pre, w ∈ sd_gt) (hc : c ∈ sd_gt) : GoodIn sd_gt (pre ++ (c :: sd_gt)) := by
  intro w hw
  have h1 : w ∈ sd_gt := by
    rcases List.mem_append.mp hw with a | a
    · exact h w a
    · rcases List.mem_cons.mp a with rfl | a
      · exact hc
      · exact a
  exact ⟨h1, good_of_word (sd_gtgood h1)⟩
theorem sd_roomok {kc k n : Nat} {R : Room} (hk : kc < k) (hn : n ≤ 10) (h1 : k ≤ R.frames) (h2 : 29 * k ≤ R.locals) : (sd_rm kc).frames + 1 ≤ R.frames ∧ 8 + (n + 11) + (sd_rm kc).locals ≤ R.locals := by
  constructor
  · show kc + 1 ≤ R.frames; omega
  · show 8 + (n + 11) + 29 * kc ≤ R.locals; omega
section SDR
variable {X : sd_X} {l : Launch} {cc : ByteArray} {own : String} {k nL : Nat} {D : va_G} {ad : Nat → Nat} {ca : Nat → ClassId} {T : Nat → Nat} {σ : sd_Mem} {lv : List (Nat × Value)} {pc : Nat} {stk : List Value}
theorem sd_iconst (C : sd_Cx X l cc own k nL D ad ca T) {n : Int} (d : decode cc pc = .ok (.iconst n, 1)) (h : (Int32.ofInt n).toInt = n) (kk : ∀ x : Int32, x.toInt = n → sd_Wd X nL D ad ca σ lv (pc + 1) (.int x :: stk)) : sd_Wd X nL D ad ca σ lv pc (stk) := by
  obtain ⟨p, l', e, R, s, m, args, below, meth, c, kc, ks, Q⟩ := X
  obtain ⟨rfl, hx, hb, hown, hml, hts, hR, hK, hI, hT⟩ := C
  intro H locs ls hl hP hS
  exact lv_iconst hx hb d rfl (kk _ h H locs ls hl hP hS)
theorem sd_bipush (C : sd_Cx X l cc own k nL D ad ca T) {n : Int} (d : decode cc pc = .ok (.bipush n, 2)) (h : (Int8.ofInt n).toInt32.toInt = n) (kk : ∀ x : Int32, x.toInt = n → sd_Wd X nL D ad ca σ lv (pc + 2) (.int x :: stk)) : sd_Wd X nL D ad ca σ lv pc (stk) := by
  obtain ⟨p, l', e, R, s, m, args, below, meth, c, kc, ks, Q⟩ := X
  obtain ⟨rfl, hx, hb, hown, hml, hts, hR, hK, hI, hT⟩ := C
  intro H locs ls hl hP hS
  exact lv_bipush hx hb d rfl (kk _ h H locs ls hl hP hS)
theorem sd_sipush (C : sd_Cx X l cc own k nL D ad ca T) {n : Int} (d : decode cc pc = .ok (.sipush n, 3)) (h : (Int16.ofInt n).toInt32.toInt = n) (kk : ∀ x : Int32, x.toInt = n → sd_Wd X nL D ad ca σ lv (pc + 3) (.int x :: stk)) : sd_Wd X nL D ad ca σ lv pc (stk) := by
  obtain ⟨p, l', e, R, s, m, args, below, meth, c, kc, ks, Q⟩ := X
  obtain ⟨rfl, hx, hb, hown, hml, hts, hR, hK, hI, hT⟩ := C
  intro H locs ls hl hP hS
  exact lv_sipush hx hb d rfl (kk _ h H locs ls hl hP hS)
theorem sd_ldc (C : sd_Cx X l cc own k nL D ad ca T) {n : Int} {idx : Nat} {v : Int32} (d : decode cc pc = .ok (.ldc idx, 2)) (w : Cond.constant own idx v ∈ sd_gt) (h : v.toInt = n) (kk : ∀ x : Int32, x.toInt = n → sd_Wd X nL D ad ca σ lv (pc + 2) (.int x :: stk)) : sd_Wd X nL D ad ca σ lv pc (stk) := by
  obtain ⟨p, l', e, R, s, m, args, below, meth, c, kc, ks, Q⟩ := X
  obtain ⟨rfl, hx, hb, hown, hml, hts, hR, hK, hI, hT⟩ := C
  intro H locs ls hl hP hS
  exact lv_ldc hx hb hown (hts _ w) d (kk _ h H locs ls hl hP hS)
theorem sd_ldc2 (C : sd_Cx X l cc own k nL D ad ca T) {n : Int} {idx : Nat} {v : Int64} (d : decode cc pc = .ok (.ldc2_w idx, 3)) (w : Cond.constantLong own idx v ∈ sd_gt) (h : v.toInt = n) (kk : ∀ x : Int64, x.toInt = n → sd_Wd X nL D ad ca σ lv (pc + 3) (.long x :: stk)) : sd_Wd X nL D ad ca σ lv pc (stk) := by
  obtain ⟨p, l', e, R, s, m, args, below, meth, c, kc, ks, Q⟩ := X
  obtain ⟨rfl, hx, hb, hown, hml, hts, hR, hK, hI, hT⟩ := C
  intro H locs ls hl hP hS
  exact lv_ldc2 hx hb hown (hts _ w) d (kk _ h H locs ls hl hP hS)
theorem sd_lconst (C : sd_Cx X l cc own k nL D ad ca T) {n : Fin 2} {z : Int} (d : decode cc pc = .ok (.lconst n, 1)) (h : (Int64.ofNat (n : Nat)).toInt = z) (kk : ∀ x : Int64, x.toInt = z → sd_Wd X nL D ad ca σ lv (pc + 1) (.long x :: stk)) : sd_Wd X nL D ad ca σ lv pc (stk) := by
  obtain ⟨p, l', e, R, s, m, args, below, meth, c, kc, ks, Q⟩ := X
  obtain ⟨rfl, hx, hb, hown, hml, hts, hR, hK, hI, hT⟩ := C
  intro H locs ls hl hP hS
  exact lv_lconst hx hb d rfl (kk _ h H locs ls hl hP hS)
theorem sd_i2l (C : sd_Cx X l cc own k nL D ad ca T) {x : Int32} (d : decode cc pc = .ok (.i2l, 1)) (kk : ∀ z : Int64, z.toInt = x.toInt → sd_Wd X nL D ad ca σ lv (pc + 1) (.long z :: stk)) : sd_Wd X nL D ad ca σ lv pc (.int x :: stk) := by
  obtain ⟨p, l', e, R, s, m, args, below, meth, c, kc, ks, Q⟩ := X
  obtain ⟨rfl, hx, hb, hown, hml, hts, hR, hK, hI, hT⟩ := C
  intro H locs ls hl hP hS
  exact lv_i2l hx hb d rfl (kk _ (by simp) H locs ls hl hP hS)
theorem sd_lcmp (C : sd_Cx X l cc own k nL D ad ca T) {x y : Int64} (d : decode cc pc = .ok (.lcmp, 1)) (kk : ∀ z : Int32, ((z.toInt = 1 ∧ y.toInt < x.toInt) ∨ (z.toInt = 0 ∧ x.toInt = y.toInt) ∨ (z.toInt = -1 ∧ x.toInt < y.toInt)) → sd_Wd X nL D ad ca σ lv (pc + 1) (.int z :: stk)) : sd_Wd X nL D ad ca σ lv pc (.long y :: .long x :: stk) := by
  obtain ⟨p, l', e, R, s, m, args, below, meth, c, kc, ks, Q⟩ := X
  obtain ⟨rfl, hx, hb, hown, hml, hts, hR, hK, hI, hT⟩ := C
  intro H locs ls hl hP hS
  refine W.lcmp hx hb d (kk _ ?_ H locs ls hl hP hS)
  unfold lg_cmp
  by_cases h1 : x > y
  · rw [if_pos h1]
    exact Or.inl ⟨rfl, Int64.lt_iff_toInt_lt.mp h1⟩
  · rw [if_neg h1]
    by_cases h2 : x = y
    · rw [if_pos h2]
      exact Or.inr (Or.inl ⟨rfl, by rw [h2]⟩)
    · rw [if_neg h2]
      refine Or.inr (Or.inr ⟨rfl, ?_⟩)
      have h3 : ¬ y.toInt < x.toInt := fun q => h1 (Int64.lt_iff_toInt_lt.mpr q)
      have h4 : ¬ x.toInt = y.toInt := fun q => h2 (Int64.toInt_inj.mp q)
      omega
theorem sd_iload_n (C : sd_Cx X l cc own k nL D ad ca T) {j : Fin 4} {i : Nat} {x : Int32} (d : decode cc pc = .ok (.iload_n j, 1)) (q : Nat) (hq : lv[q]? = some (i, .int x)) (hi : (j : Nat) = i) (kk : sd_Wd X nL D ad ca σ lv (pc + 1) (.int x :: stk)) : sd_Wd X nL D ad ca σ lv pc (stk) := by
  obtain ⟨p, l', e, R, s, m, args, below, meth, c, kc, ks, Q⟩ := X
  obtain ⟨rfl, hx, hb, hown, hml, hts, hR, hK, hI, hT⟩ := C
  intro H locs ls hl hP hS
  exact lv_iload_n hx hb d hi (lv_at hl q hq) (kk H locs ls hl hP hS)
theorem sd_iload (C : sd_Cx X l cc own k nL D ad ca T) {i : Nat} {x : Int32} (d : decode cc pc = .ok (.iload i, 2)) (q : Nat) (hq : lv[q]? = some (i, .int x)) (kk : sd_Wd X nL D ad ca σ lv (pc + 2) (.int x :: stk)) : sd_Wd X nL D ad ca σ lv pc (stk) := by
  obtain ⟨p, l', e, R, s, m, args, below, meth, c, kc, ks, Q⟩ := X
  obtain ⟨rfl, hx, hb, hown, hml, hts, hR, hK, hI, hT⟩ := C
  intro H locs ls hl hP hS
  exact lv_iload hx hb d (lv_at hl q hq) (kk H locs ls hl hP hS)
theorem sd_lload_n (C : sd_Cx X l cc own k nL D ad ca T) {j : Fin 4} {i : Nat} {x : Int64} (d : decode cc pc = .ok (.lload_n j, 1)) (q : Nat) (hq : lv[q]? = some (i, .long x)) (hi : (j : Nat) = i) (kk : sd_Wd X nL D ad ca σ lv (pc + 1) (.long x :: stk)) : sd_Wd X nL D ad ca σ lv pc (stk) := by
  obtain ⟨p, l', e, R, s, m, args, below, meth, c, kc, ks, Q⟩ := X
  obtain ⟨rfl, hx, hb, hown, hml, hts, hR, hK, hI, hT⟩ := C
  intro H locs ls hl hP hS
  exact lv_lload_n hx hb d hi (lv_at hl q hq) (kk H locs ls hl hP hS)
theorem sd_lload (C : sd_Cx X l cc own k nL D ad ca T) {i : Nat} {x : Int64} (d : decode cc pc = .ok (.lload i, 2)) (q : Nat) (hq : lv[q]? = some (i, .long x)) (kk : sd_Wd X nL D ad ca σ lv (pc + 2) (.long x :: stk)) : sd_Wd X nL D ad ca σ lv pc (stk) := by
  obtain ⟨p, l', e, R, s, m, args, below, meth, c, kc, ks, Q⟩ := X
  obtain ⟨rfl, hx, hb, hown, hml, hts, hR, hK, hI, hT⟩ := C
  intro H locs ls hl hP hS
  exact lv_lload hx hb d (lv_at hl q hq) (kk H locs ls hl hP hS)
theorem sd_aload_n (C : sd_Cx X l cc own k nL D ad ca T) {j : Fin 4} {i : Nat} {x : Nat} (d : decode cc pc = .ok (.aload_n j, 1)) (q : Nat) (hq : lv[q]? = some (i, .ref x)) (hi : (j : Nat) = i) (kk : sd_Wd X nL D ad ca σ lv (pc + 1) (.ref x :: stk)) : sd_Wd X nL D ad ca σ lv pc (stk) := by
  obtain ⟨p, l', e, R, s, m, args, below, meth, c, kc, ks, Q⟩ := X
  obtain ⟨rfl, hx, hb, hown, hml, hts, hR, hK, hI, hT⟩ := C
  intro H locs ls hl hP hS
  exact lv_aload_n hx hb d hi (lv_at hl q hq) (kk H locs ls hl hP hS)
theorem sd_aload (C : sd_Cx X l cc own k nL D ad ca T) {i : Nat} {x : Nat} (d : decode cc pc = .ok (.aload i, 2)) (q : Nat) (hq : lv[q]? = some (i, .ref x)) (kk : sd_Wd X nL D ad ca σ lv (pc + 2) (.ref x :: stk)) : sd_Wd X nL D ad ca σ lv pc (stk) := by
  obtain ⟨p, l', e, R, s, m, args, below, meth, c, kc, ks, Q⟩ := X
  obtain ⟨rfl, hx, hb, hown, hml, hts, hR, hK, hI, hT⟩ := C
  intro H locs ls hl hP hS
  exact lv_aload hx hb d (lv_at hl q hq) (kk H locs ls hl hP hS)
theorem sd_istore_n (C : sd_Cx X l cc own k nL D ad ca T) {j : Fin 4} {i : Nat} {x : Int32} {lv' : List (Nat × Value)} (d : decode cc pc = .ok (.istore_n j, 1)) (hi : (j : Nat) = i) (hn : i < nL) (h : (i, Value.int x) :: lv.filter (fun q => !(q.1 == i) && !(q.1 + 1 == i && q.2.category == 2)) = lv') (kk : sd_Wd X nL D ad ca σ lv' (pc + 1) (stk)) : sd_Wd X nL D ad ca σ lv pc (.int x :: stk) := by
  obtain ⟨p, l', e, R, s, m, args, below, meth, c, kc, ks, Q⟩ := X
  obtain ⟨rfl, hx, hb, hown, hml, hts, hR, hK, hI, hT⟩ := C
  intro H locs ls hl hP hS
  exact lv_istore_n hx hb d hi hl hn h (fun ls hl => kk H locs ls hl hP hS)
theorem sd_istore (C : sd_Cx X l cc own k nL D ad ca T) {i : Nat} {x : Int32} {lv' : List (Nat × Value)} (d : decode cc pc = .ok (.istore i, 2)) (hn : i < nL) (h : (i, Value.int x) :: lv.filter (fun q => !(q.1 == i) && !(q.1 + 1 == i && q.2.category == 2)) = lv') (kk : sd_Wd X nL D ad ca σ lv' (pc + 2) (stk)) : sd_Wd X nL D ad ca σ lv pc (.int x :: stk) := by
  obtain ⟨p, l', e, R, s, m, args, below, meth, c, kc, ks, Q⟩ := X
  obtain ⟨rfl, hx, hb, hown, hml, hts, hR, hK, hI, hT⟩ := C
  intro H locs ls hl hP hS
  exact lv_istore hx hb d hl hn h (fun ls hl => kk H locs ls hl hP hS)
theorem sd_astore_n (C : sd_Cx X l cc own k nL D ad ca T) {j : Fin 4} {i : Nat} {x : Nat} {lv' : List (Nat × Value)} (d : decode cc pc = .ok (.astore_n j, 1)) (hi : (j : Nat) = i) (hn : i < nL) (h : (i, Value.ref x) :: lv.filter (fun q => !(q.1 == i) && !(q.1 + 1 == i && q.2.category == 2)) = lv') (kk : sd_Wd X nL D ad ca σ lv' (pc + 1) (stk)) : sd_Wd X nL D ad ca σ lv pc (.ref x :: stk) := by
  obtain ⟨p, l', e, R, s, m, args, below, meth, c, kc, ks, Q⟩ := X
  obtain ⟨rfl, hx, hb, hown, hml, hts, hR, hK, hI, hT⟩ := C
  intro H locs ls hl hP hS
  exact lv_astore_n hx hb d hi hl hn h (fun ls hl => kk H locs ls hl hP hS)
theorem sd_astore (C : sd_Cx X l cc own k nL D ad ca T) {i : Nat} {x : Nat} {lv' : List (Nat × Value)} (d : decode cc pc = .ok (.astore i, 2)) (hn : i < nL) (h : (i, Value.ref x) :: lv.filter (fun q => !(q.1 == i) && !(q.1 + 1 == i && q.2.category == 2)) = lv') (kk : sd_Wd X nL D ad ca σ lv' (pc + 2) (stk)) : sd_Wd X nL D ad ca σ lv pc (.ref x :: stk) := by
  obtain ⟨p, l', e, R, s, m, args, below, meth, c, kc, ks, Q⟩ := X
  obtain ⟨rfl, hx, hb, hown, hml, hts, hR, hK, hI, hT⟩ := C
  intro H locs ls hl hP hS
  exact lv_astore hx hb d hl hn h (fun ls hl => kk H locs ls hl hP hS)
theorem sd_iinc (C : sd_Cx X l cc own k nL D ad ca T) {i : Nat} {n : Int} {x : Int32} (d : decode cc pc = .ok (.iinc i n, 3)) (q : Nat) (hq : lv[q]? = some (i, .int x)) (hn : i < nL) (hn2 : (Int32.ofInt n).toInt = n) (hr : -2147483648 ≤ x.toInt + n ∧ x.toInt + n < 2147483648) (lv' : Int32 → List (Nat × Value)) (h : ∀ z : Int32, (i, Value.int z) :: lv.filter (fun q => !(q.1 == i) && !(q.1 + 1 == i && q.2.category == 2)) = lv' z) (kk : ∀ z : Int32, z.toInt = x.toInt + n → sd_Wd X nL D ad ca σ (lv' z) (pc + 3) (stk)) : sd_Wd X nL D ad ca σ lv pc (stk) := by
  obtain ⟨p, l', e, R, s, m, args, below, meth, c, kc, ks, Q⟩ := X
  obtain ⟨rfl, hx, hb, hown, hml, hts, hR, hK, hI, hT⟩ := C
  intro H locs ls hl hP hS
  refine lv_iinc hx hb d hl hq rfl hn (h _) (fun ls hl => kk _ ?_ H locs ls hl hP hS)
  rw [sd_addI (by rw [hn2]; exact hr.1) (by rw [hn2]; exact hr.2), hn2]
theorem sd_iadd (C : sd_Cx X l cc own k nL D ad ca T) {x y : Int32} (d : decode cc pc = .ok (.iadd, 1)) (h : -2147483648 ≤ x.toInt + y.toInt ∧ x.toInt + y.toInt < 2147483648) (kk : ∀ z : Int32, z.toInt = x.toInt + y.toInt → sd_Wd X nL D ad ca σ lv (pc + 1) (.int z :: stk)) : sd_Wd X nL D ad ca σ lv pc (.int y :: .int x :: stk) := by
  obtain ⟨p, l', e, R, s, m, args, below, meth, c, kc, ks, Q⟩ := X
  obtain ⟨rfl, hx, hb, hown, hml, hts, hR, hK, hI, hT⟩ := C
  intro H locs ls hl hP hS
  exact lv_iadd hx hb d (kk _ (sd_addI h.1 h.2) H locs ls hl hP hS)
theorem sd_iaddW (C : sd_Cx X l cc own k nL D ad ca T) {x y : Int32} (d : decode cc pc = .ok (.iadd, 1)) (kk : sd_Wd X nL D ad ca σ lv (pc + 1) (.int (x + y) :: stk)) : sd_Wd X nL D ad ca σ lv pc (.int y :: .int x :: stk) := by
  obtain ⟨p, l', e, R, s, m, args, below, meth, c, kc, ks, Q⟩ := X
  obtain ⟨rfl, hx, hb, hown, hml, hts, hR, hK, hI, hT⟩ := C
  intro H locs ls hl hP hS
  exact lv_iadd hx hb d (kk H locs ls hl hP hS)
theorem sd_isub (C : sd_Cx X l cc own k nL D ad ca T) {x y : Int32} (d : decode cc pc = .ok (.isub, 1)) (h : -2147483648 ≤ x.toInt - y.toInt ∧ x.toInt - y.toInt < 2147483648) (kk : ∀ z : Int32, z.toInt = x.toInt - y.toInt → sd_Wd X nL D ad ca σ lv (pc + 1) (.int z :: stk)) : sd_Wd X nL D ad ca σ lv pc (.int y :: .int x :: stk) := by
  obtain ⟨p, l', e, R, s, m, args, below, meth, c, kc, ks, Q⟩ := X
  obtain ⟨rfl, hx, hb, hown, hml, hts, hR, hK, hI, hT⟩ := C
  intro H locs ls hl hP hS
  exact lv_isub hx hb d (kk _ (sd_subI h.1 h.2) H locs ls hl hP hS)
theorem sd_isubW (C : sd_Cx X l cc own k nL D ad ca T) {x y : Int32} (d : decode cc pc = .ok (.isub, 1)) (kk : sd_Wd X nL D ad ca σ lv (pc + 1) (.int (x - y) :: stk)) : sd_Wd X nL D ad ca σ lv pc (.int y :: .int x :: stk) := by
  obtain ⟨p, l', e, R, s, m, args, below, meth, c, kc, ks, Q⟩ := X
  obtain ⟨rfl, hx, hb, hown, hml, hts, hR, hK, hI, hT⟩ := C
  intro H locs ls hl hP hS
  exact lv_isub hx hb d (kk H locs ls hl hP hS)
theorem sd_imul (C : sd_Cx X l cc own k nL D ad ca T) {x y : Int32} (d : decode cc pc = .ok (.imul, 1)) (h : -2147483648 ≤ x.toInt * y.toInt ∧ x.toInt * y.toInt < 2147483648) (kk : ∀ z : Int32, z.toInt = x.toInt * y.toInt → sd_Wd X nL D ad ca σ lv (pc + 1) (.int z :: stk)) : sd_Wd X nL D ad ca σ lv pc (.int y :: .int x :: stk) := by
  obtain ⟨p, l', e, R, s, m, args, below, meth, c, kc, ks, Q⟩ := X
  obtain ⟨rfl, hx, hb, hown, hml, hts, hR, hK, hI, hT⟩ := C
  intro H locs ls hl hP hS
  exact lv_imul hx hb d (kk _ (sd_mulI h.1 h.2) H locs ls hl hP hS)
theorem sd_imulW (C : sd_Cx X l cc own k nL D ad ca T) {x y : Int32} (d : decode cc pc = .ok (.imul, 1)) (kk : sd_Wd X nL D ad ca σ lv (pc + 1) (.int (x * y) :: stk)) : sd_Wd X nL D ad ca σ lv pc (.int y :: .int x :: stk) := by
  obtain ⟨p, l', e, R, s, m, args, below, meth, c, kc, ks, Q⟩ := X
  obtain ⟨rfl, hx, hb, hown, hml, hts, hR, hK, hI, hT⟩ := C
  intro H locs ls hl hP hS
  exact lv_imul hx hb d (kk H locs ls hl hP hS)
theorem sd_iand (C : sd_Cx X l cc own k nL D ad ca T) {x y : Int32} (d : decode cc pc = .ok (.iand, 1)) (kk : sd_Wd X nL D ad ca σ lv (pc + 1) (.int (x &&& y) :: stk)) : sd_Wd X nL D ad ca σ lv pc (.int y :: .int x :: stk) := by
  obtain ⟨p, l', e, R, s, m, args, below, meth, c, kc, ks, Q⟩ := X
  obtain ⟨rfl, hx, hb, hown, hml, hts, hR, hK, hI, hT⟩ := C
  intro H locs ls hl hP hS
  exact lv_iand hx hb d (kk H locs ls hl hP hS)
theorem sd_ior (C : sd_Cx X l cc own k nL D ad ca T) {x y : Int32} (d : decode cc pc = .ok (.ior, 1)) (kk : sd_Wd X nL D ad ca σ lv (pc + 1) (.int (x ||| y) :: stk)) : sd_Wd X nL D ad ca σ lv pc (.int y :: .int x :: stk) := by
  obtain ⟨p, l', e, R, s, m, args, below, meth, c, kc, ks, Q⟩ := X
  obtain ⟨rfl, hx, hb, hown, hml, hts, hR, hK, hI, hT⟩ := C
  intro H locs ls hl hP hS
  exact lv_ior hx hb d (kk H locs ls hl hP hS)
theorem sd_ishl (C : sd_Cx X l cc own k nL D ad ca T) {x y : Int32} (d : decode cc pc = .ok (.ishl, 1)) (kk : sd_Wd X nL D ad ca σ lv (pc + 1) (.int (x <<< (y &&& 31)) :: stk)) : sd_Wd X nL D ad ca σ lv pc (.int y :: .int x :: stk) := by
  obtain ⟨p, l', e, R, s, m, args, below, meth, c, kc, ks, Q⟩ := X
  obtain ⟨rfl, hx, hb, hown, hml, hts, hR, hK, hI, hT⟩ := C
  intro H locs ls hl hP hS
  exact lv_ishl hx hb d (kk H locs ls hl hP hS)
theorem sd_ishr (C : sd_Cx X l cc own k nL D ad ca T) {x y : Int32} (d : decode cc pc = .ok (.ishr, 1)) (kk : sd_Wd X nL D ad ca σ lv (pc + 1) (.int (x >>> (y &&& 31)) :: stk)) : sd_Wd X nL D ad ca σ lv pc (.int y :: .int x :: stk) := by
  obtain ⟨p, l', e, R, s, m, args, below, meth, c, kc, ks, Q⟩ := X
  obtain ⟨rfl, hx, hb, hown, hml, hts, hR, hK, hI, hT⟩ := C
  intro H locs ls hl hP hS
  exact lv_ishr hx hb d (kk H locs ls hl hP hS)
theorem sd_idiv (C : sd_Cx X l cc own k nL D ad ca T) {x y : Int32} (n : Int) (hn : 0 < n) (d : decode cc pc = .ok (.idiv, 1)) (hy : y.toInt = n) (h0 : 0 ≤ x.toInt) (kk : ∀ z : Int32, z.toInt = x.toInt / n → sd_Wd X nL D ad ca σ lv (pc + 1) (.int z :: stk)) : sd_Wd X nL D ad ca σ lv pc (.int y :: .int x :: stk) := by
  obtain ⟨p, l', e, R, s, m, args, below, meth, c, kc, ks, Q⟩ := X
  obtain ⟨rfl, hx, hb, hown, hml, hts, hR, hK, hI, hT⟩ := C
  intro H locs ls hl hP hS
  refine lv_idiv hx hb d (fun q => ?_) (kk _ (sd_divI hn hy h0) H locs ls hl hP hS)
  rw [q] at hy
  simp at hy
  omega
theorem sd_dup (C : sd_Cx X l cc own k nL D ad ca T) {v : Value} (d : decode cc pc = .ok (.dup, 1)) (hv : v.category = 1) (kk : sd_Wd X nL D ad ca σ lv (pc + 1) (v :: v :: stk)) : sd_Wd X nL D ad ca σ lv pc (v :: stk) := by
  obtain ⟨p, l', e, R, s, m, args, below, meth, c, kc, ks, Q⟩ := X
  obtain ⟨rfl, hx, hb, hown, hml, hts, hR, hK, hI, hT⟩ := C
  intro H locs ls hl hP hS
  exact lv_dup hx hb d hv (kk H locs ls hl hP hS)
theorem sd_dup2 (C : sd_Cx X l cc own k nL D ad ca T) {v w : Value} (d : decode cc pc = .ok (.dup2, 1)) (hv : v.category = 1) (hw : w.category = 1) (kk : sd_Wd X nL D ad ca σ lv (pc + 1) (v :: w :: v :: w :: stk)) : sd_Wd X nL D ad ca σ lv pc (v :: w :: stk) := by
  obtain ⟨p, l', e, R, s, m, args, below, meth, c, kc, ks, Q⟩ := X
  obtain ⟨rfl, hx, hb, hown, hml, hts, hR, hK, hI, hT⟩ := C
  intro H locs ls hl hP hS
  exact lv_dup2_11 hx hb d hv hw (kk H locs ls hl hP hS)
theorem sd_pop (C : sd_Cx X l cc own k nL D ad ca T) {v : Value} (d : decode cc pc = .ok (.pop, 1)) (hv : v.category = 1) (kk : sd_Wd X nL D ad ca σ lv (pc + 1) (stk)) : sd_Wd X nL D ad ca σ lv pc (v :: stk) := by
  obtain ⟨p, l', e, R, s, m, args, below, meth, c, kc, ks, Q⟩ := X
  obtain ⟨rfl, hx, hb, hown, hml, hts, hR, hK, hI, hT⟩ := C
  intro H locs ls hl hP hS
  exact lv_pop hx hb d hv (kk H locs ls hl hP hS)
theorem sd_goto (C : sd_Cx X l cc own k nL D ad ca T) {off : Int} (t : Nat) (d : decode cc pc = .ok (.goto off, 3)) (ht : (pc : Int) + off = (t : Int)) (kk : sd_Wd X nL D ad ca σ lv t (stk)) : sd_Wd X nL D ad ca σ lv pc (stk) := by
  obtain ⟨p, l', e, R, s, m, args, below, meth, c, kc, ks, Q⟩ := X
  obtain ⟨rfl, hx, hb, hown, hml, hts, hR, hK, hI, hT⟩ := C
  intro H locs ls hl hP hS
  exact lv_goto hx hb d ht (kk H locs ls hl hP hS)
theorem sd_icmp_eq (C : sd_Cx X l cc own k nL D ad ca T) {x y : Int32} {off : Int} (t : Nat) (d : decode cc pc = .ok (.if_icmp .eq off, 3)) (ht : (pc : Int) + off = (t : Int)) (kt : x.toInt = y.toInt → sd_Wd X nL D ad ca σ lv t (stk)) (kf : x.toInt ≠ y.toInt → sd_Wd X nL D ad ca σ lv (pc + 3) (stk)) : sd_Wd X nL D ad ca σ lv pc (.int y :: .int x :: stk) := by
  obtain ⟨p, l', e, R, s, m, args, below, meth, c, kc, ks, Q⟩ := X
  obtain ⟨rfl, hx, hb, hown, hml, hts, hR, hK, hI, hT⟩ := C
  intro H locs ls hl hP hS
  exact lv_icmp_eq hx hb d ht (fun q => kt (by first | (rw [q]; done) | (exact fun z => q (Int32.toInt_inj.mp z)) | (have q1 := sd_ilt q; omega) | (have q1 := sd_inlt q; omega) | (have q1 := sd_ile q; omega) | (have q1 := sd_inle q; omega)) H locs ls hl hP hS) (fun q => kf (by first | (rw [q]; done) | (exact fun z => q (Int32.toInt_inj.mp z)) | (have q1 := sd_ilt q; omega) | (have q1 := sd_inlt q; omega) | (have q1 := sd_ile q; omega) | (have q1 := sd_inle q; omega)) H locs ls hl hP hS)
theorem sd_if_eq (C : sd_Cx X l cc own k nL D ad ca T) {x : Int32} {off : Int} (t : Nat) (d : decode cc pc = .ok (.ifCond .eq off, 3)) (ht : (pc : Int) + off = (t : Int)) (kt : x.toInt = 0 → sd_Wd X nL D ad ca σ lv t (stk)) (kf : x.toInt ≠ 0 → sd_Wd X nL D ad ca σ lv (pc + 3) (stk)) : sd_Wd X nL D ad ca σ lv pc (.int x :: stk) := by
  obtain ⟨p, l', e, R, s, m, args, below, meth, c, kc, ks, Q⟩ := X
  obtain ⟨rfl, hx, hb, hown, hml, hts, hR, hK, hI, hT⟩ := C
  intro H locs ls hl hP hS
  exact lv_if_eq hx hb d ht (fun q => kt (by first | (exact sd_i0 q) | (exact sd_i0n q) | (have q1 := sd_ilt q; simp at q1; omega) | (have q1 := sd_inlt q; simp at q1; omega) | (have q1 := sd_ile q; simp at q1; omega) | (have q1 := sd_inle q; simp at q1; omega)) H locs ls hl hP hS) (fun q => kf (by first | (exact sd_i0 q) | (exact sd_i0n q) | (have q1 := sd_ilt q; simp at q1; omega) | (have q1 := sd_inlt q; simp at q1; omega) | (have q1 := sd_ile q; simp at q1; omega) | (have q1 := sd_inle q; simp at q1; omega)) H locs ls hl hP hS)
theorem sd_icmp_ne (C : sd_Cx X l cc own k nL D ad ca T) {x y : Int32} {off : Int} (t : Nat) (d : decode cc pc = .ok (.if_icmp .ne off, 3)) (ht : (pc : Int) + off = (t : Int)) (kt : x.toInt ≠ y.toInt → sd_Wd X nL D ad ca σ lv t (stk)) (kf : x.toInt = y.toInt → sd_Wd X nL D ad ca σ lv (pc + 3) (stk)) : sd_Wd X nL D ad ca σ lv pc (.int y :: .int x :: stk) := by
  obtain ⟨p, l', e, R, s, m, args, below, meth, c, kc, ks, Q⟩ := X
  obtain ⟨rfl, hx, hb, hown, hml, hts, hR, hK, hI, hT⟩ := C
  intro H locs ls hl hP hS
  exact lv_icmp_ne hx hb d ht (fun q => kt (by first | (rw [q]; done) | (exact fun z => q (Int32.toInt_inj.mp z)) | (have q1 := sd_ilt q; omega) | (have q1 := sd_inlt q; omega) | (have q1 := sd_ile q; omega) | (have q1 := sd_inle q; omega)) H locs ls hl hP hS) (fun q => kf (by first | (rw [q]; done) | (exact fun z => q (Int32.toInt_inj.mp z)) | (have q1 := sd_ilt q; omega) | (have q1 := sd_inlt q; omega) | (have q1 := sd_ile q; omega) | (have q1 := sd_inle q; omega)) H locs ls hl hP hS)
theorem sd_if_ne (C : sd_Cx X l cc own k nL D ad ca T) {x : Int32} {off : Int} (t : Nat) (d : decode cc pc = .ok (.ifCond .ne off, 3)) (ht : (pc : Int) + off = (t : Int)) (kt : x.toInt ≠ 0 → sd_Wd X nL D ad ca σ lv t (stk)) (kf : x.toInt = 0 → sd_Wd X nL D ad ca σ lv (pc + 3) (stk)) : sd_Wd X nL D ad ca σ lv pc (.int x :: stk) := by
  obtain ⟨p, l', e, R, s, m, args, below, meth, c, kc, ks, Q⟩ := X
  obtain ⟨rfl, hx, hb, hown, hml, hts, hR, hK, hI, hT⟩ := C
  intro H locs ls hl hP hS
  exact lv_if_ne hx hb d ht (fun q => kt (by first | (exact sd_i0 q) | (exact sd_i0n q) | (have q1 := sd_ilt q; simp at q1; omega) | (have q1 := sd_inlt q; simp at q1; omega) | (have q1 := sd_ile q; simp at q1; omega) | (have q1 := sd_inle q; simp at q1; omega)) H locs ls hl hP hS) (fun q => kf (by first | (exact sd_i0 q) | (exact sd_i0n q) | (have q1 := sd_ilt q; simp at q1; omega) | (have q1 := sd_inlt q; simp at q1; omega) | (have q1 := sd_ile q; simp at q1; omega) | (have q1 := sd_inle q; simp at q1; omega)) H locs ls hl hP hS)
theorem sd_icmp_lt (C : sd_Cx X l cc own k nL D ad ca T) {x y : Int32} {off : Int} (t : Nat) (d : decode cc pc = .ok (.if_icmp .lt off, 3)) (ht : (pc : Int) + off = (t : Int)) (kt : x.toInt < y.toInt → sd_Wd X nL D ad ca σ lv t (stk)) (kf : y.toInt ≤ x.toInt → sd_Wd X nL D ad ca σ lv (pc + 3) (stk)) : sd_Wd X nL D ad ca σ lv pc (.int y :: .int x :: stk) := by
  obtain ⟨p, l', e, R, s, m, args, below, meth, c, kc, ks, Q⟩ := X
  obtain ⟨rfl, hx, hb, hown, hml, hts, hR, hK, hI, hT⟩ := C
  intro H locs ls hl hP hS
  exact lv_icmp_lt hx hb d ht (fun q => kt (by first | (rw [q]; done) | (exact fun z => q (Int32.toInt_inj.mp z)) | (have q1 := sd_ilt q; omega) | (have q1 := sd_inlt q; omega) | (have q1 := sd_ile q; omega) | (have q1 := sd_inle q; omega)) H locs ls hl hP hS) (fun q => kf (by first | (rw [q]; done) | (exact fun z => q (Int32.toInt_inj.mp z)) | (have q1 := sd_ilt q; omega) | (have q1 := sd_inlt q; omega) | (have q1 := sd_ile q; omega) | (have q1 := sd_inle q; omega)) H locs ls hl hP hS)
theorem sd_if_lt (C : sd_Cx X l cc own k nL D ad ca T) {x : Int32} {off : Int} (t : Nat) (d : decode cc pc = .ok (.ifCond .lt off, 3)) (ht : (pc : Int) + off = (t : Int)) (kt : x.toInt < 0 → sd_Wd X nL D ad ca σ lv t (stk)) (kf : 0 ≤ x.toInt → sd_Wd X nL D ad ca σ lv (pc + 3) (stk)) : sd_Wd X nL D ad ca σ lv pc (.int x :: stk) := by
  obtain ⟨p, l', e, R, s, m, args, below, meth, c, kc, ks, Q⟩ := X
  obtain ⟨rfl, hx, hb, hown, hml, hts, hR, hK, hI, hT⟩ := C
  intro H locs ls hl hP hS
  exact lv_if_lt hx hb d ht (fun q => kt (by first | (exact sd_i0 q) | (exact sd_i0n q) | (have q1 := sd_ilt q; simp at q1; omega) | (have q1 := sd_inlt q; simp at q1; omega) | (have q1 := sd_ile q; simp at q1; omega) | (have q1 := sd_inle q; simp at q1; omega)) H locs ls hl hP hS) (fun q => kf (by first | (exact sd_i0 q) | (exact sd_i0n q) | (have q1 := sd_ilt q; simp at q1; omega) | (have q1 := sd_inlt q; simp at q1; omega) | (have q1 := sd_ile q; simp at q1; omega) | (have q1 := sd_inle q; simp at q1; omega)) H locs ls hl hP hS)
theorem sd_icmp_ge (C : sd_Cx X l cc own k nL D ad ca T) {x y : Int32} {off : Int} (t : Nat) (d : decode cc pc = .ok (.if_icmp .ge off, 3)) (ht : (pc : Int) + off = (t : Int)) (kt : y.toInt ≤ x.toInt → sd_Wd X nL D ad ca σ lv t (stk)) (kf : x.toInt < y.toInt → sd_Wd X nL D ad ca σ lv (pc + 3) (stk)) : sd_Wd X nL D ad ca σ lv pc (.int y :: .int x :: stk) := by
  obtain ⟨p, l', e, R, s, m, args, below, meth, c, kc, ks, Q⟩ := X
  obtain ⟨rfl, hx, hb, hown, hml, hts, hR, hK, hI, hT⟩ := C
  intro H locs ls hl hP hS
  exact lv_icmp_ge hx hb d ht (fun q => kt (by first | (rw [q]; done) | (exact fun z => q (Int32.toInt_inj.mp z)) | (have q1 := sd_ilt q; omega) | (have q1 := sd_inlt q; omega) | (have q1 := sd_ile q; omega) | (have q1 := sd_inle q; omega)) H locs ls hl hP hS) (fun q => kf (by first | (rw [q]; done) | (exact fun z => q (Int32.toInt_inj.mp z)) | (have q1 := sd_ilt q; omega) | (have q1 := sd_inlt q; omega) | (have q1 := sd_ile q; omega) | (have q1 := sd_inle q; omega)) H locs ls hl hP hS)
theorem sd_if_ge (C : sd_Cx X l cc own k nL D ad ca T) {x : Int32} {off : Int} (t : Nat) (d : decode cc pc = .ok (.ifCond .ge off, 3)) (ht : (pc : Int) + off = (t : Int)) (kt : 0 ≤ x.toInt → sd_Wd X nL D ad ca σ lv t (stk)) (kf : x.toInt < 0 → sd_Wd X nL D ad ca σ lv (pc + 3) (stk)) : sd_Wd X nL D ad ca σ lv pc (.int x :: stk) := by
  obtain ⟨p, l', e, R, s, m, args, below, meth, c, kc, ks, Q⟩ := X
  obtain ⟨rfl, hx, hb, hown, hml, hts, hR, hK, hI, hT⟩ := C
  intro H locs ls hl hP hS
  exact lv_if_ge hx hb d ht (fun q => kt (by first | (exact sd_i0 q) | (exact sd_i0n q) | (have q1 := sd_ilt q; simp at q1; omega) | (have q1 := sd_inlt q; simp at q1; omega) | (have q1 := sd_ile q; simp at q1; omega) | (have q1 := sd_inle q; simp at q1; omega)) H locs ls hl hP hS) (fun q => kf (by first | (exact sd_i0 q) | (exact sd_i0n q) | (have q1 := sd_ilt q; simp at q1; omega) | (have q1 := sd_inlt q; simp at q1; omega) | (have q1 := sd_ile q; simp at q1; omega) | (have q1 := sd_inle q; simp at q1; omega)) H locs ls hl hP hS)
theorem sd_icmp_gt (C : sd_Cx X l cc own k nL D ad ca T) {x y : Int32} {off : Int} (t : Nat) (d : decode cc pc = .ok (.if_icmp .gt off, 3)) (ht : (pc : Int) + off = (t : Int)) (kt : y.toInt < x.toInt → sd_Wd X nL D ad ca σ lv t (stk)) (kf : x.toInt ≤ y.toInt → sd_Wd X nL D ad ca σ lv (pc + 3) (stk)) : sd_Wd X nL D ad ca σ lv pc (.int y :: .int x :: stk) := by
  obtain ⟨p, l', e, R, s, m, args, below, meth, c, kc, ks, Q⟩ := X
  obtain ⟨rfl, hx, hb, hown, hml, hts, hR, hK, hI, hT⟩ := C
  intro H locs ls hl hP hS
  exact lv_icmp_gt hx hb d ht (fun q => kt (by first | (rw [q]; done) | (exact fun z => q (Int32.toInt_inj.mp z)) | (have q1 := sd_ilt q; omega) | (have q1 := sd_inlt q; omega) | (have q1 := sd_ile q; omega) | (have q1 := sd_inle q; omega)) H locs ls hl hP hS) (fun q => kf (by first | (rw [q]; done) | (exact fun z => q (Int32.toInt_inj.mp z)) | (have q1 := sd_ilt q; omega) | (have q1 := sd_inlt q; omega) | (have q1 := sd_ile q; omega) | (have q1 := sd_inle q; omega)) H locs ls hl hP hS)
theorem sd_if_gt (C : sd_Cx X l cc own k nL D ad ca T) {x : Int32} {off : Int} (t : Nat) (d : decode cc pc = .ok (.ifCond .gt off, 3)) (ht : (pc : Int) + off = (t : Int)) (kt : 0 < x.toInt → sd_Wd X nL D ad ca σ lv t (stk)) (kf : x.toInt ≤ 0 → sd_Wd X nL D ad ca σ lv (pc + 3) (stk)) : sd_Wd X nL D ad ca σ lv pc (.int x :: stk) := by
  obtain ⟨p, l', e, R, s, m, args, below, meth, c, kc, ks, Q⟩ := X
  obtain ⟨rfl, hx, hb, hown, hml, hts, hR, hK, hI, hT⟩ := C
  intro H locs ls hl hP hS
  exact lv_if_gt hx hb d ht (fun q => kt (by first | (exact sd_i0 q) | (exact sd_i0n q) | (have q1 := sd_ilt q; simp at q1; omega) | (have q1 := sd_inlt q; simp at q1; omega) | (have q1 := sd_ile q; simp at q1; omega) | (have q1 := sd_inle q; simp at q1; omega)) H locs ls hl hP hS) (fun q => kf (by first | (exact sd_i0 q) | (exact sd_i0n q) | (have q1 := sd_ilt q; simp at q1; omega) | (have q1 := sd_inlt q; simp at q1; omega) | (have q1 := sd_ile q; simp at q1; omega) | (have q1 := sd_inle q; simp at q1; omega)) H locs ls hl hP hS)
theorem sd_icmp_le (C : sd_Cx X l cc own k nL D ad ca T) {x y : Int32} {off : Int} (t : Nat) (d : decode cc pc = .ok (.if_icmp .le off, 3)) (ht : (pc : Int) + off = (t : Int)) (kt : x.toInt ≤ y.toInt → sd_Wd X nL D ad ca σ lv t (stk)) (kf : y.toInt < x.toInt → sd_Wd X nL D ad ca σ lv (pc + 3) (stk)) : sd_Wd X nL D ad ca σ lv pc (.int y :: .int x :: stk) := by
  obtain ⟨p, l', e, R, s, m, args, below, meth, c, kc, ks, Q⟩ := X
  obtain ⟨rfl, hx, hb, hown, hml, hts, hR, hK, hI, hT⟩ := C
  intro H locs ls hl hP hS
  exact lv_icmp_le hx hb d ht (fun q => kt (by first | (rw [q]; done) | (exact fun z => q (Int32.toInt_inj.mp z)) | (have q1 := sd_ilt q; omega) | (have q1 := sd_inlt q; omega) | (have q1 := sd_ile q; omega) | (have q1 := sd_inle q; omega)) H locs ls hl hP hS) (fun q => kf (by first | (rw [q]; done) | (exact fun z => q (Int32.toInt_inj.mp z)) | (have q1 := sd_ilt q; omega) | (have q1 := sd_inlt q; omega) | (have q1 := sd_ile q; omega) | (have q1 := sd_inle q; omega)) H locs ls hl hP hS)
theorem sd_if_le (C : sd_Cx X l cc own k nL D ad ca T) {x : Int32} {off : Int} (t : Nat) (d : decode cc pc = .ok (.ifCond .le off, 3)) (ht : (pc : Int) + off = (t : Int)) (kt : x.toInt ≤ 0 → sd_Wd X nL D ad ca σ lv t (stk)) (kf : 0 < x.toInt → sd_Wd X nL D ad ca σ lv (pc + 3) (stk)) : sd_Wd X nL D ad ca σ lv pc (.int x :: stk) := by
  obtain ⟨p, l', e, R, s, m, args, below, meth, c, kc, ks, Q⟩ := X
  obtain ⟨rfl, hx, hb, hown, hml, hts, hR, hK, hI, hT⟩ := C
  intro H locs ls hl hP hS
  exact lv_if_le hx hb d ht (fun q => kt (by first | (exact sd_i0 q) | (exact sd_i0n q) | (have q1 := sd_ilt q; simp at q1; omega) | (have q1 := sd_inlt q; simp at q1; omega) | (have q1 := sd_ile q; simp at q1; omega) | (have q1 := sd_inle q; simp at q1; omega)) H locs ls hl hP hS) (fun q => kf (by first | (exact sd_i0 q) | (exact sd_i0n q) | (have q1 := sd_ilt q; simp at q1; omega) | (have q1 := sd_inlt q; simp at q1; omega) | (have q1 := sd_ile q; simp at q1; omega) | (have q1 := sd_inle q; simp at q1; omega)) H locs ls hl hP hS)
theorem sd_tableOut (C : sd_Cx X l cc own k nL D ad ca T) {dflt lo hi : Int} {offs : Array Int} {len : Nat} {x : Int32} (t : Nat) (d : decode cc pc = .ok (.tableswitch dflt lo hi offs, len)) (h : x.toInt < lo ∨ hi < x.toInt) (ht : (pc : Int) + dflt = (t : Int)) (kk : sd_Wd X nL D ad ca σ lv t (stk)) : sd_Wd X nL D ad ca σ lv pc (.int x :: stk) := by
  obtain ⟨p, l', e, R, s, m, args, below, meth, c, kc, ks, Q⟩ := X
  obtain ⟨rfl, hx, hb, hown, hml, hts, hR, hK, hI, hT⟩ := C
  intro H locs ls hl hP hS
  exact lv_tableOut hx hb d h ht (kk H locs ls hl hP hS)
theorem sd_tableIn (C : sd_Cx X l cc own k nL D ad ca T) {dflt lo hi : Int} {offs : Array Int} {len : Nat} {x : Int32} {off : Int} (t : Nat) (v : Int) (d : decode cc pc = .ok (.tableswitch dflt lo hi offs, len)) (hv : x.toInt = v) (h : ¬ v < lo ∧ ¬ hi < v) (ho : offs[(v - lo).toNat]? = some off) (ht : (pc : Int) + off = (t : Int)) (kk : sd_Wd X nL D ad ca σ lv t (stk)) : sd_Wd X nL D ad ca σ lv pc (.int x :: stk) := by
  obtain ⟨p, l', e, R, s, m, args, below, meth, c, kc, ks, Q⟩ := X
  obtain ⟨rfl, hx, hb, hown, hml, hts, hR, hK, hI, hT⟩ := C
  intro H locs ls hl hP hS
  exact lv_tableIn hx hb d (by rw [hv]; exact h.1) (by rw [hv]; exact h.2) (by rw [hv]; exact ho) ht (kk H locs ls hl hP hS)
theorem sd_lookup (C : sd_Cx X l cc own k nL D ad ca T) {dflt : Int} {ps : Array (Int × Int)} {len : Nat} {x : Int32} {off : Int} (t : Nat) (d : decode cc pc = .ok (.lookupswitch dflt ps, len)) (hp : (ps.toList.zip (ps.toList.drop 1)).all (fun (a, next) => a.1 < next.1) = true) (ho : Op.lookupswitch.offset ps.toList dflt x.toInt = off) (ht : (pc : Int) + off = (t : Int)) (kk : sd_Wd X nL D ad ca σ lv t (stk)) : sd_Wd X nL D ad ca σ lv pc (.int x :: stk) := by
  obtain ⟨p, l', e, R, s, m, args, below, meth, c, kc, ks, Q⟩ := X
  obtain ⟨rfl, hx, hb, hown, hml, hts, hR, hK, hI, hT⟩ := C
  intro H locs ls hl hP hS
  exact lv_lookup hx hb d hp ho ht (kk H locs ls hl hP hS)
theorem sd_get (C : sd_Cx X l cc own k nL D ad ca T) {i ci N idx : Nat} {fs : List Value} {Cn : String} {TT : u_T} {v : Value} (hi : i < 93) (hc : sd_cell ad ca i (σ i) = .inr (ci, fs)) (hcl : vwCl[ci]? = some (Cn, TT, N)) (kf : Nat) (hk : kf < N) (hv : fs[kf]? = some v) (w : Cond.fieldLink own idx (TT kf).1 (TT kf).2.1 (TT kf).2.2.1 ∈ sd_gt) (d : decode cc pc = .ok (.getfield idx, 3)) (kk : sd_Wd X nL D ad ca σ lv (pc + 3) (v :: stk)) : sd_Wd X nL D ad ca σ lv pc (.ref (ad i) :: stk) := by
  obtain ⟨p, l', e, R, s, m, args, below, meth, c, kc, ks, Q⟩ := X
  obtain ⟨rfl, hx, hb, hown, hml, hts, hR, hK, hI, hT⟩ := C
  intro H locs ls hl hP hS
  exact va_get (D := D) (tys := sd_ty ca) hx hb hts (sd_in hcl) hown hK hP i (by rw [sd_w_at hi, hc]) hcl kf hk (hts _ w) (fun _ h => h) hv d (kk H locs ls hl hP hS)
theorem sd_put (C : sd_Cx X l cc own k nL D ad ca T) {i ci N idx : Nat} {fs : List Value} {Cn : String} {TT : u_T} {x : Int32} {ty : FieldType} (hi : i < 93) (hc : sd_cell ad ca i (σ i) = .inr (ci, fs)) (hcl : vwCl[ci]? = some (Cn, TT, N)) (kf : Nat) (hk : kf < N) (hf : (TT kf).2.2.2 = false) (hd : parseFieldDescriptor (TT kf).2.2.1 = some ty) (hn : narrow ty (.int x) = .int x) (hfit : fits ty (.int x) = true) (hle : kf < fs.length) (he : ∀ f : Nat → Int32, (Sum.inr (ci, fs.set kf (.int x)) : va_E) = sd_cell ad ca i (upd (σ i) kf x)) (w : Cond.fieldLink own idx (TT kf).1 (TT kf).2.1 (TT kf).2.2.1 ∈ sd_gt) (d : decode cc pc = .ok (.putfield idx, 3)) (kk : ∀ σ' : sd_Mem, σ' = sd_st σ i kf x → sd_Wd X nL D ad ca σ' lv (pc + 3) (stk)) : sd_Wd X nL D ad ca σ lv pc (.int x :: .ref (ad i) :: stk) := by
  obtain ⟨p, l', e, R, s, m, args, below, meth, c, kc, ks, Q⟩ := X
  obtain ⟨rfl, hx, hb, hown, hml, hts, hR, hK, hI, hT⟩ := C
  intro H locs ls hl hP hS
  obtain ⟨ty0, h1, h2⟩ := sd_nmty hcl
  refine va_put (D := D) (tys := sd_ty ca) hx hb hts (sd_in hcl) ty0 h1 h2 hown hK hP (sd_D hI) hS i (by rw [sd_w_at hi, hc]) hcl kf hk (hts _ w) (fun _ h => h) hf hd hn hfit hle d (fun H1 locs1 hP1 _ hS1 => ?_)
  rw [sd_w_set hi (he (σ i))] at hP1
  exact kk _ rfl H1 locs1 ls hl hP1 hS1
theorem sd_iald (C : sd_Cx X l cc own k nL D ad ca T) {i n : Nat} {x : Int32} (hi : i < 93) (hc : sd_cell ad ca i (σ i) = .inl (ca 0, n, .inl (σ i))) (j : Nat) (hj : x.toInt = (j : Int) ∧ j < n) (d : decode cc pc = .ok (.iaload, 1)) (kk : sd_Wd X nL D ad ca σ lv (pc + 1) (.int (σ i j) :: stk)) : sd_Wd X nL D ad ca σ lv pc (.int x :: .ref (ad i) :: stk) := by
  obtain ⟨p, l', e, R, s, m, args, below, meth, c, kc, ks, Q⟩ := X
  obtain ⟨rfl, hx, hb, hown, hml, hts, hR, hK, hI, hT⟩ := C
  intro H locs ls hl hP hS
  have hcl : x.toNatClampNeg = j := sd_clamp hj.1
  refine va_iald (D := D) (tys := sd_ty ca) hx hb hK hP i 0 (by rw [sd_w_at hi, hc]) rfl (sd_vpin hj.1 hj.2) d ?_
  rw [hcl]
  exact kk H locs ls hl hP hS
theorem sd_zald (C : sd_Cx X l cc own k nL D ad ca T) {i n : Nat} {x : Int32} (hi : i < 93) (hc : sd_cell ad ca i (σ i) = .inl (ca 1, n, .inl (σ i))) (j : Nat) (hj : x.toInt = (j : Int) ∧ j < n) (d : decode cc pc = .ok (.baload, 1)) (kk : sd_Wd X nL D ad ca σ lv (pc + 1) (.int (σ i j) :: stk)) : sd_Wd X nL D ad ca σ lv pc (.int x :: .ref (ad i) :: stk) := by
  obtain ⟨p, l', e, R, s, m, args, below, meth, c, kc, ks, Q⟩ := X
  obtain ⟨rfl, hx, hb, hown, hml, hts, hR, hK, hI, hT⟩ := C
  intro H locs ls hl hP hS
  have hcl : x.toNatClampNeg = j := sd_clamp hj.1
  refine va_zald (D := D) (tys := sd_ty ca) hx hb hK hP i 1 (by rw [sd_w_at hi, hc]) rfl (sd_vpin hj.1 hj.2) d ?_
  rw [hcl]
  exact kk H locs ls hl hP hS
theorem sd_iast (C : sd_Cx X l cc own k nL D ad ca T) {i n : Nat} {x v : Int32} (hi : i < 93) (hc : ∀ f : Nat → Int32, sd_cell ad ca i f = .inl (ca 0, n, .inl f)) (j : Nat) (hj : x.toInt = (j : Int) ∧ j < n) (d : decode cc pc = .ok (.iastore, 1)) (kk : ∀ σ' : sd_Mem, σ' = sd_st σ i j v → sd_Wd X nL D ad ca σ' lv (pc + 1) (stk)) : sd_Wd X nL D ad ca σ lv pc (.int v :: .int x :: .ref (ad i) :: stk) := by
  obtain ⟨p, l', e, R, s, m, args, below, meth, c, kc, ks, Q⟩ := X
  obtain ⟨rfl, hx, hb, hown, hml, hts, hR, hK, hI, hT⟩ := C
  intro H locs ls hl hP hS
  have hcl : x.toNatClampNeg = j := sd_clamp hj.1
  refine va_iast (D := D) (tys := sd_ty ca) hx hb hK hP (sd_D hI) hS i 0 (by rw [sd_w_at hi, hc]) rfl (sd_vpin hj.1 hj.2) d (fun H1 locs1 hP1 _ hS1 => ?_)
  rw [hcl, sd_w_set hi (hc _).symm] at hP1
  exact kk _ rfl H1 locs1 ls hl hP1 hS1
theorem sd_zast (C : sd_Cx X l cc own k nL D ad ca T) {i n : Nat} {x v : Int32} (hi : i < 93) (hc : ∀ f : Nat → Int32, sd_cell ad ca i f = .inl (ca 1, n, .inl f)) (j : Nat) (hj : x.toInt = (j : Int) ∧ j < n) (hv : v.toInt = 0 ∨ v.toInt = 1) (d : decode cc pc = .ok (.bastore, 1)) (kk : ∀ σ' : sd_Mem, σ' = sd_st σ i j v → sd_Wd X nL D ad ca σ' lv (pc + 1) (stk)) : sd_Wd X nL D ad ca σ lv pc (.int v :: .int x :: .ref (ad i) :: stk) := by
  obtain ⟨p, l', e, R, s, m, args, below, meth, c, kc, ks, Q⟩ := X
  obtain ⟨rfl, hx, hb, hown, hml, hts, hR, hK, hI, hT⟩ := C
  intro H locs ls hl hP hS
  have hcl : x.toNatClampNeg = j := sd_clamp hj.1
  have hnar : vp_nar .boolean v = v := by
    rcases sd_b01 hv with rfl | rfl <;> rfl
  refine va_zast (D := D) (tys := sd_ty ca) hx hb hK hP (sd_D hI) hS i 1 (by rw [sd_w_at hi, hc]) rfl (sd_vpin hj.1 hj.2) d (fun H1 locs1 hP1 _ hS1 => ?_)
  rw [hcl, hnar, sd_w_set hi (hc _).symm] at hP1
  exact kk _ rfl H1 locs1 ls hl hP1 hS1
theorem sd_aald9 (C : sd_Cx X l cc own k nL D ad ca T) {x : Int32} (j : Nat) (hj : x.toInt = (j : Int) ∧ j < 24) (d : decode cc pc = .ok (.aaload, 1)) (kk : sd_Wd X nL D ad ca σ lv (pc + 1) (.ref (ad (16 + j)) :: stk)) : sd_Wd X nL D ad ca σ lv pc (.int x :: .ref (ad 9) :: stk) := by
  obtain ⟨p, l', e, R, s, m, args, below, meth, c, kc, ks, Q⟩ := X
  obtain ⟨rfl, hx, hb, hown, hml, hts, hR, hK, hI, hT⟩ := C
  intro H locs ls hl hP hS
  have hcl : x.toNatClampNeg = j := sd_clamp hj.1
  refine va_aldq (D := D) (tys := sd_ty ca) (f := fun p => some (ad (16 + p))) hx hb hK hP 9 3 (sd_w_at (by decide)) rfl (sd_vpin hj.1 hj.2) d ?_
  rw [hcl]
  exact kk H locs ls hl hP hS
theorem sd_aald12 (C : sd_Cx X l cc own k nL D ad ca T) {x : Int32} (j : Nat) (hj : x.toInt = (j : Int) ∧ j < 6) (d : decode cc pc = .ok (.aaload, 1)) (kk : sd_Wd X nL D ad ca σ lv (pc + 1) (.ref (ad (64 + j)) :: stk)) : sd_Wd X nL D ad ca σ lv pc (.int x :: .ref (ad 12) :: stk) := by
  obtain ⟨p, l', e, R, s, m, args, below, meth, c, kc, ks, Q⟩ := X
  obtain ⟨rfl, hx, hb, hown, hml, hts, hR, hK, hI, hT⟩ := C
  intro H locs ls hl hP hS
  have hcl : x.toNatClampNeg = j := sd_clamp hj.1
  refine va_aldq (D := D) (tys := sd_ty ca) (f := fun p => some (ad (64 + p))) hx hb hK hP 12 2 (sd_w_at (by decide)) rfl (sd_vpin hj.1 hj.2) d ?_
  rw [hcl]
  exact kk H locs ls hl hP hS
theorem sd_gs0 (C : sd_Cx X l cc own k nL D ad ca T) {idx : Nat} (w : Cond.fieldLink own idx "SittingDesk" "LEAST_RULE" "[I" ∈ sd_gt) (d : decode cc pc = .ok (.getstatic idx, 3)) (kk : sd_Wd X nL D ad ca σ lv (pc + 3) (.ref (T 0) :: stk)) : sd_Wd X nL D ad ca σ lv pc (stk) := by
  obtain ⟨p, l', e, R, s, m, args, below, meth, c, kc, ks, Q⟩ := X
  obtain ⟨rfl, hx, hb, hown, hml, hts, hR, hK, hI, hT⟩ := C
  intro H locs ls hl hP hS
  exact va_gets hx hb hT.1.1 hS hown (hts _ w) (fun _ h => h) d (kk H locs ls hl hP hS)
theorem sd_tl0 (C : sd_Cx X l cc own k nL D ad ca T) {x : Int32} (j : Nat) (hj : x.toInt = (j : Int) ∧ j < 6) (d : decode cc pc = .ok (.iaload, 1)) (kk : sd_Wd X nL D ad ca σ lv (pc + 1) (.int (sd_t0 j) :: stk)) : sd_Wd X nL D ad ca σ lv pc (.int x :: .ref (T 0) :: stk) := by
  obtain ⟨p, l', e, R, s, m, args, below, meth, c, kc, ks, Q⟩ := X
  obtain ⟨rfl, hx, hb, hown, hml, hts, hR, hK, hI, hT⟩ := C
  intro H locs ls hl hP hS
  have hcl : x.toNatClampNeg = j := sd_clamp hj.1
  refine va_ti hx hb hT.1.2 hS (sd_vpin hj.1 hj.2) rfl d ?_
  rw [hcl]
  exact kk H locs ls hl hP hS
theorem sd_gs1 (C : sd_Cx X l cc own k nL D ad ca T) {idx : Nat} (w : Cond.fieldLink own idx "SittingDesk" "GREATEST_RULE" "[I" ∈ sd_gt) (d : decode cc pc = .ok (.getstatic idx, 3)) (kk : sd_Wd X nL D ad ca σ lv (pc + 3) (.ref (T 1) :: stk)) : sd_Wd X nL D ad ca σ lv pc (stk) := by
  obtain ⟨p, l', e, R, s, m, args, below, meth, c, kc, ks, Q⟩ := X
  obtain ⟨rfl, hx, hb, hown, hml, hts, hR, hK, hI, hT⟩ := C
  intro H locs ls hl hP hS
  exact va_gets hx hb hT.2.1.1 hS hown (hts _ w) (fun _ h => h) d (kk H locs ls hl hP hS)
theorem sd_tl1 (C : sd_Cx X l cc own k nL D ad ca T) {x : Int32} (j : Nat) (hj : x.toInt = (j : Int) ∧ j < 6) (d : decode cc pc = .ok (.iaload, 1)) (kk : sd_Wd X nL D ad ca σ lv (pc + 1) (.int (sd_t1 j) :: stk)) : sd_Wd X nL D ad ca σ lv pc (.int x :: .ref (T 1) :: stk) := by
  obtain ⟨p, l', e, R, s, m, args, below, meth, c, kc, ks, Q⟩ := X
  obtain ⟨rfl, hx, hb, hown, hml, hts, hR, hK, hI, hT⟩ := C
  intro H locs ls hl hP hS
  have hcl : x.toNatClampNeg = j := sd_clamp hj.1
  refine va_ti hx hb hT.2.1.2 hS (sd_vpin hj.1 hj.2) rfl d ?_
  rw [hcl]
  exact kk H locs ls hl hP hS
theorem sd_gs2 (C : sd_Cx X l cc own k nL D ad ca T) {idx : Nat} (w : Cond.fieldLink own idx "SittingDesk$Funnel" "JUST_THOSE_AHEAD" "[I" ∈ sd_gt) (d : decode cc pc = .ok (.getstatic idx, 3)) (kk : sd_Wd X nL D ad ca σ lv (pc + 3) (.ref (T 2) :: stk)) : sd_Wd X nL D ad ca σ lv pc (stk) := by
  obtain ⟨p, l', e, R, s, m, args, below, meth, c, kc, ks, Q⟩ := X
  obtain ⟨rfl, hx, hb, hown, hml, hts, hR, hK, hI, hT⟩ := C
  intro H locs ls hl hP hS
  exact va_gets hx hb hT.2.2.1.1 hS hown (hts _ w) (fun _ h => h) d (kk H locs ls hl hP hS)
theorem sd_tl2 (C : sd_Cx X l cc own k nL D ad ca T) {x : Int32} (j : Nat) (hj : x.toInt = (j : Int) ∧ j < 4) (d : decode cc pc = .ok (.iaload, 1)) (kk : sd_Wd X nL D ad ca σ lv (pc + 1) (.int (sd_t2 j) :: stk)) : sd_Wd X nL D ad ca σ lv pc (.int x :: .ref (T 2) :: stk) := by
  obtain ⟨p, l', e, R, s, m, args, below, meth, c, kc, ks, Q⟩ := X
  obtain ⟨rfl, hx, hb, hown, hml, hts, hR, hK, hI, hT⟩ := C
  intro H locs ls hl hP hS
  have hcl : x.toNatClampNeg = j := sd_clamp hj.1
  refine va_ti hx hb hT.2.2.1.2 hS (sd_vpin hj.1 hj.2) rfl d ?_
  rw [hcl]
  exact kk H locs ls hl hP hS
theorem sd_gs3 (C : sd_Cx X l cc own k nL D ad ca T) {idx : Nat} (w : Cond.fieldLink own idx "SittingDesk$Funnel" "ALL_WITHOUT" "[I" ∈ sd_gt) (d : decode cc pc = .ok (.getstatic idx, 3)) (kk : sd_Wd X nL D ad ca σ lv (pc + 3) (.ref (T 3) :: stk)) : sd_Wd X nL D ad ca σ lv pc (stk) := by
  obtain ⟨p, l', e, R, s, m, args, below, meth, c, kc, ks, Q⟩ := X
  obtain ⟨rfl, hx, hb, hown, hml, hts, hR, hK, hI, hT⟩ := C
  intro H locs ls hl hP hS
  exact va_gets hx hb hT.2.2.2.1 hS hown (hts _ w) (fun _ h => h) d (kk H locs ls hl hP hS)
theorem sd_tl3 (C : sd_Cx X l cc own k nL D ad ca T) {x : Int32} (j : Nat) (hj : x.toInt = (j : Int) ∧ j < 4) (d : decode cc pc = .ok (.iaload, 1)) (kk : sd_Wd X nL D ad ca σ lv (pc + 1) (.int (sd_t3 j) :: stk)) : sd_Wd X nL D ad ca σ lv pc (.int x :: .ref (T 3) :: stk) := by
  obtain ⟨p, l', e, R, s, m, args, below, meth, c, kc, ks, Q⟩ := X
  obtain ⟨rfl, hx, hb, hown, hml, hts, hR, hK, hI, hT⟩ := C
  intro H locs ls hl hP hS
  have hcl : x.toNatClampNeg = j := sd_clamp hj.1
  refine va_ti hx hb hT.2.2.2.2 hS (sd_vpin hj.1 hj.2) rfl d ?_
  rw [hcl]
  exact kk H locs ls hl hP hS
theorem sd_max (C : sd_Cx X l cc own k nL D ad ca T) {x y : Int32} {idx : Nat} (w : Cond.methodLink own idx Lib.Math.max.name ∈ sd_gt) (hk : 1 ≤ k) (hr : (stk.map fun v => v.category).sum ≤ 8) (d : decode cc pc = .ok (.invokestatic idx, 3)) (kk : ∀ z : Int32, ((z = x ∧ y.toInt ≤ x.toInt) ∨ (z = y ∧ x.toInt < y.toInt)) → sd_Wd X nL D ad ca σ lv (pc + 3) (.int z :: stk)) : sd_Wd X nL D ad ca σ lv pc (.int y :: .int x :: stk) := by
  obtain ⟨p, l', e, R, s, m, args, below, meth, c, kc, ks, Q⟩ := X
  obtain ⟨rfl, hx, hb, hown, hml, hts, hR, hK, hI, hT⟩ := C
  intro H locs ls hl hP hS
  refine va_mmax hx hb (by rw [hml, hl.1]) hown (hts _ w) (hts _ wt_J9_max_7cf53) (hts _ wn_J9) (hts _ wc_J9_max_7cf53) (by omega) (by omega) hR.2.2.1 hR.2.2.2 d (kk _ ?_ H locs ls hl hP hS)
  by_cases h : x < y
  · rw [if_pos h]; exact Or.inr ⟨rfl, Int32.lt_iff_toInt_lt.mp h⟩
  · rw [if_neg h]; exact Or.inl ⟨rfl, by have h3 : ¬ x.toInt < y.toInt := fun q => h (Int32.lt_iff_toInt_lt.mpr q)
                                         omega⟩
theorem sd_callVi (C : sd_Cx X l cc own k nL D ad ca T) {y : MethodName} {b : ByteArray} {n kc' np i ci N idx : Nat} {fs : List Value} {TT : u_T} {As rest : List Value} {post : Int32 → sd_Mem → Prop} (hM : sd_Ci l y b n kc' D ad ca T σ (.ref (ad i) :: As) post) (mw : sd_MV y b n (some .int) np) (w : Cond.methodLink own idx y ∈ sd_gt) (hi : i < 93) (hc : sd_cell ad ca i (σ i) = .inr (ci, fs)) (hcl : vwCl[ci]? = some (y.cls, TT, N)) (hk : kc' < k) (hAs : As.length = np) (hst : stk = As.reverse ++ .ref (ad i) :: rest) (hr : (rest.map fun v => v.category).sum ≤ 8) (d : decode cc pc = .ok (.invokevirtual idx, 3)) (kk : ∀ (r : Int32) (σ' : sd_Mem), post r σ' → sd_Wd X nL D ad ca σ' lv (pc + 3) (.int r :: rest)) : sd_Wd X nL D ad ca σ lv pc (stk) := by
  obtain ⟨p, l', e, R, s, m, args, below, meth, c, kc, ks, Q⟩ := X
  obtain ⟨rfl, hx, hb, hown, hml, hts, hR, hK, hI, hT⟩ := C
  intro H locs ls hl hP hS
  subst hst
  obtain ⟨m0, m1, m2, m3, m4, m5, m6, m7⟩ := mw
  have hg : GoodIn sd_gt (wsV own idx y.cls y (.code y b n (some .int) :: sd_gt)) := sd_good (by intro z hz; simp only [List.mem_cons, List.not_mem_nil, or_false] at hz; rcases hz with rfl | rfl | rfl | rfl <;> assumption) m4
  refine va_calli (va_runV (As := As) (rest := rest) ⟨hx, hb, hml, hown, hts⟩ hM (cwV np hts hg rfl rfl rfl ⟨rfl, m5, m6, m7⟩ (sd_roomok hk m0 hR.1 hR.2.1)) ⟨fun a U g mk q => by obtain ⟨q0, qP, qK, qI, qT⟩ := q; exact ⟨q0, qP, va_K.moved (u := U) (U := U.calling g mk a) (Vm.Alike.refl U.vm) qK, qI, qT.go (U := U.calling g mk a) (Vm.Alike.refl U.vm) (fun _ _ _ => rfl)⟩, va_recv hK hP hcl (by rw [sd_w_at hi, hc]), fun U hU hW => ⟨rfl, by rw [hU]; exact hP, va_K.moved hW.alike hK, hI, hT.go hW.alike (by rw [hU]; exact hS.2.1)⟩⟩ rfl hAs hl.1 rfl (lv_room hr) d ⟨hR.2.2.1, hR.2.2.2⟩) hS (fun q _ h => h) (fun q h => h) (fun r σ' t H1 locs1 ht hvm hpost hB hz hkeep hS' => ?_)
  obtain ⟨hP1, -, -, -⟩ := hB
  rw [ht] at hP1
  exact kk r σ' hpost H1 locs1 ls hl hP1 hS'
theorem sd_callVz (C : sd_Cx X l cc own k nL D ad ca T) {y : MethodName} {b : ByteArray} {n kc' np i ci N idx : Nat} {fs : List Value} {TT : u_T} {As rest : List Value} {post : Int32 → sd_Mem → Prop} (hM : sd_Cz l y b n kc' D ad ca T σ (.ref (ad i) :: As) post) (mw : sd_MV y b n (some .boolean) np) (w : Cond.methodLink own idx y ∈ sd_gt) (hi : i < 93) (hc : sd_cell ad ca i (σ i) = .inr (ci, fs)) (hcl : vwCl[ci]? = some (y.cls, TT, N)) (hk : kc' < k) (hAs : As.length = np) (hst : stk = As.reverse ++ .ref (ad i) :: rest) (hr : (rest.map fun v => v.category).sum ≤ 8) (d : decode cc pc = .ok (.invokevirtual idx, 3)) (kk : ∀ (r : Int32) (σ' : sd_Mem), post r σ' → sd_Wd X nL D ad ca σ' lv (pc + 3) (.int r :: rest)) : sd_Wd X nL D ad ca σ lv pc (stk) := by
  obtain ⟨p, l', e, R, s, m, args, below, meth, c, kc, ks, Q⟩ := X
  obtain ⟨rfl, hx, hb, hown, hml, hts, hR, hK, hI, hT⟩ := C
  intro H locs ls hl hP hS
  subst hst
  obtain ⟨m0, m1, m2, m3, m4, m5, m6, m7⟩ := mw
  have hg : GoodIn sd_gt (wsV own idx y.cls y (.code y b n (some .boolean) :: sd_gt)) := sd_good (by intro z hz; simp only [List.mem_cons, List.not_mem_nil, or_false] at hz; rcases hz with rfl | rfl | rfl | rfl <;> assumption) m4
  refine va_calli (va_runV (As := As) (rest := rest) ⟨hx, hb, hml, hown, hts⟩ hM (cwV np hts hg rfl rfl rfl ⟨rfl, m5, m6, m7⟩ (sd_roomok hk m0 hR.1 hR.2.1)) ⟨fun a U g mk q => by obtain ⟨q0, qP, qK, qI, qT⟩ := q; exact ⟨q0, qP, va_K.moved (u := U) (U := U.calling g mk a) (Vm.Alike.refl U.vm) qK, qI, qT.go (U := U.calling g mk a) (Vm.Alike.refl U.vm) (fun _ _ _ => rfl)⟩, va_recv hK hP hcl (by rw [sd_w_at hi, hc]), fun U hU hW => ⟨rfl, by rw [hU]; exact hP, va_K.moved hW.alike hK, hI, hT.go hW.alike (by rw [hU]; exact hS.2.1)⟩⟩ rfl hAs hl.1 rfl (lv_room hr) d ⟨hR.2.2.1, hR.2.2.2⟩) hS (fun q _ h => h) (fun q h => h) (fun r σ' t H1 locs1 ht hvm hpost hB hz hkeep hS' => ?_)
  obtain ⟨hP1, -, -, -⟩ := hB
  rw [ht] at hP1
  exact kk r σ' hpost H1 locs1 ls hl hP1 hS'
theorem sd_callVv (C : sd_Cx X l cc own k nL D ad ca T) {y : MethodName} {b : ByteArray} {n kc' np i ci N idx : Nat} {fs : List Value} {TT : u_T} {As rest : List Value} {post : sd_Mem → Prop} (hM : sd_Cv l y b n kc' D ad ca T σ (.ref (ad i) :: As) post) (mw : sd_MV y b n none np) (w : Cond.methodLink own idx y ∈ sd_gt) (hi : i < 93) (hc : sd_cell ad ca i (σ i) = .inr (ci, fs)) (hcl : vwCl[ci]? = some (y.cls, TT, N)) (hk : kc' < k) (hAs : As.length = np) (hst : stk = As.reverse ++ .ref (ad i) :: rest) (hr : (rest.map fun v => v.category).sum ≤ 8) (d : decode cc pc = .ok (.invokevirtual idx, 3)) (kk : ∀ σ' : sd_Mem, post σ' → sd_Wd X nL D ad ca σ' lv (pc + 3) (rest)) : sd_Wd X nL D ad ca σ lv pc (stk) := by
  obtain ⟨p, l', e, R, s, m, args, below, meth, c, kc, ks, Q⟩ := X
  obtain ⟨rfl, hx, hb, hown, hml, hts, hR, hK, hI, hT⟩ := C
  intro H locs ls hl hP hS
  subst hst
  obtain ⟨m0, m1, m2, m3, m4, m5, m6, m7⟩ := mw
  have hg : GoodIn sd_gt (wsV own idx y.cls y (.code y b n none :: sd_gt)) := sd_good (by intro z hz; simp only [List.mem_cons, List.not_mem_nil, or_false] at hz; rcases hz with rfl | rfl | rfl | rfl <;> assumption) m4
  refine va_callv (va_runV (As := As) (rest := rest) ⟨hx, hb, hml, hown, hts⟩ hM (cwV np hts hg rfl rfl rfl ⟨rfl, m5, m6, m7⟩ (sd_roomok hk m0 hR.1 hR.2.1)) ⟨fun a U g mk q => by obtain ⟨q0, qP, qK, qI, qT⟩ := q; exact ⟨q0, qP, va_K.moved (u := U) (U := U.calling g mk a) (Vm.Alike.refl U.vm) qK, qI, qT.go (U := U.calling g mk a) (Vm.Alike.refl U.vm) (fun _ _ _ => rfl)⟩, va_recv hK hP hcl (by rw [sd_w_at hi, hc]), fun U hU hW => ⟨rfl, by rw [hU]; exact hP, va_K.moved hW.alike hK, hI, hT.go hW.alike (by rw [hU]; exact hS.2.1)⟩⟩ rfl hAs hl.1 rfl (lv_room hr) d ⟨hR.2.2.1, hR.2.2.2⟩) hS (fun q _ h => h) (fun q h => h) (fun σ' t H1 locs1 ht hvm hpost hB hz hkeep hS' => ?_)
  obtain ⟨hP1, -, -, -⟩ := hB
  rw [ht] at hP1
  exact kk σ' hpost H1 locs1 ls hl hP1 hS'
theorem sd_callSi (C : sd_Cx X l cc own k nL D ad ca T) {y : MethodName} {b : ByteArray} {n kc' np idx : Nat} {As rest : List Value} {post : Int32 → sd_Mem → Prop} (hM : sd_Ci l y b n kc' D ad ca T σ As post) (mw : sd_MS y b n (some .int) np) (w : Cond.methodLink own idx y ∈ sd_gt) (hk : kc' < k) (hAs : As.length = np) (hst : stk = As.reverse ++ rest) (hr : (rest.map fun v => v.category).sum ≤ 8) (d : decode cc pc = .ok (.invokestatic idx, 3)) (kk : ∀ (r : Int32) (σ' : sd_Mem), post r σ' → sd_Wd X nL D ad ca σ' lv (pc + 3) (.int r :: rest)) : sd_Wd X nL D ad ca σ lv pc (stk) := by
  obtain ⟨p, l', e, R, s, m, args, below, meth, c, kc, ks, Q⟩ := X
  obtain ⟨rfl, hx, hb, hown, hml, hts, hR, hK, hI, hT⟩ := C
  intro H locs ls hl hP hS
  subst hst
  obtain ⟨m0, m1, m3, m4, m5, m6, m7⟩ := mw
  have hg : GoodIn sd_gt (va_wsS own idx y (.code y b n (some .int) :: sd_gt)) := sd_good (by intro z hz; simp only [List.mem_cons, List.not_mem_nil, or_false] at hz; rcases hz with rfl | rfl | rfl <;> assumption) m4
  refine va_calli (va_runS (As := As) (rest := rest) ⟨hx, hb, hml, hown, hts⟩ hM (va_cwS np hts hg rfl rfl rfl ⟨m5, m6, m7⟩ (sd_roomok hk m0 hR.1 hR.2.1)) ⟨fun a U g mk q => by obtain ⟨q0, qP, qK, qI, qT⟩ := q; exact ⟨q0, qP, va_K.moved (u := U) (U := U.calling g mk a) (Vm.Alike.refl U.vm) qK, qI, qT.go (U := U.calling g mk a) (Vm.Alike.refl U.vm) (fun _ _ _ => rfl)⟩, fun U hU hW => ⟨rfl, by rw [hU]; exact hP, va_K.moved hW.alike hK, hI, hT.go hW.alike (by rw [hU]; exact hS.2.1)⟩⟩ rfl hAs hl.1 rfl (lv_room hr) d ⟨hR.2.2.1, hR.2.2.2⟩) hS (fun q _ h => h) (fun q h => h) (fun r σ' t H1 locs1 ht hvm hpost hB hz hkeep hS' => ?_)
  obtain ⟨hP1, -, -, -⟩ := hB
  rw [ht] at hP1
  exact kk r σ' hpost H1 locs1 ls hl hP1 hS'
theorem sd_callSz (C : sd_Cx X l cc own k nL D ad ca T) {y : MethodName} {b : ByteArray} {n kc' np idx : Nat} {As rest : List Value} {post : Int32 → sd_Mem → Prop} (hM : sd_Cz l y b n kc' D ad ca T σ As post) (mw : sd_MS y b n (some .boolean) np) (w : Cond.methodLink own idx y ∈ sd_gt) (hk : kc' < k) (hAs : As.length = np) (hst : stk = As.reverse ++ rest) (hr : (rest.map fun v => v.category).sum ≤ 8) (d : decode cc pc = .ok (.invokestatic idx, 3)) (kk : ∀ (r : Int32) (σ' : sd_Mem), post r σ' → sd_Wd X nL D ad ca σ' lv (pc + 3) (.int r :: rest)) : sd_Wd X nL D ad ca σ lv pc (stk) := by
  obtain ⟨p, l', e, R, s, m, args, below, meth, c, kc, ks, Q⟩ := X
  obtain ⟨rfl, hx, hb, hown, hml, hts, hR, hK, hI, hT⟩ := C
  intro H locs ls hl hP hS
  subst hst
  obtain ⟨m0, m1, m3, m4, m5, m6, m7⟩ := mw
  have hg : GoodIn sd_gt (va_wsS own idx y (.code y b n (some .boolean) :: sd_gt)) := sd_good (by intro z hz; simp only [List.mem_cons, List.not_mem_nil, or_false] at hz; rcases hz with rfl | rfl | rfl <;> assumption) m4
  refine va_calli (va_runS (As := As) (rest := rest) ⟨hx, hb, hml, hown, hts⟩ hM (va_cwS np hts hg rfl rfl rfl ⟨m5, m6, m7⟩ (sd_roomok hk m0 hR.1 hR.2.1)) ⟨fun a U g mk q => by obtain ⟨q0, qP, qK, qI, qT⟩ := q; exact ⟨q0, qP, va_K.moved (u := U) (U := U.calling g mk a) (Vm.Alike.refl U.vm) qK, qI, qT.go (U := U.calling g mk a) (Vm.Alike.refl U.vm) (fun _ _ _ => rfl)⟩, fun U hU hW => ⟨rfl, by rw [hU]; exact hP, va_K.moved hW.alike hK, hI, hT.go hW.alike (by rw [hU]; exact hS.2.1)⟩⟩ rfl hAs hl.1 rfl (lv_room hr) d ⟨hR.2.2.1, hR.2.2.2⟩) hS (fun q _ h => h) (fun q h => h) (fun r σ' t H1 locs1 ht hvm hpost hB hz hkeep hS' => ?_)
  obtain ⟨hP1, -, -, -⟩ := hB
  rw [ht] at hP1
  exact kk r σ' hpost H1 locs1 ls hl hP1 hS'
end SDR

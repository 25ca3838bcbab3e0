/-! the memory: what each cell of ours holds, by its number and its slot -/
abbrev sd_Mem : Type := Nat → Nat → Int32
def sd_st (σ : sd_Mem) (i k : Nat) (v : Int32) : sd_Mem := fun a => if a = i then upd (σ i) k v else σ a
theorem sd_st_at (σ : sd_Mem) (i k : Nat) (v : Int32) : sd_st σ i k v i k = v := by simp [sd_st, upd]
theorem sd_st_ne {σ : sd_Mem} {i k a : Nat} {v : Int32} (h : a ≠ i) : sd_st σ i k v a = σ a := by simp [sd_st, h]
theorem sd_st_nk {σ : sd_Mem} {i k a b : Nat} {v : Int32} (h : b ≠ k) : sd_st σ i k v a b = σ a b := by
  by_cases ha : a = i
  · subst ha; simp [sd_st, upd, h]
  · simp [sd_st, ha]
theorem sd_st_eq (σ : sd_Mem) (i k : Nat) (v : Int32) (a b : Nat) : sd_st σ i k v a b = if a = i ∧ b = k then v else σ a b := by
  by_cases ha : a = i
  · subst ha
    by_cases hb : b = k
    · subst hb; simp [sd_st, upd]
    · simp [sd_st, upd, hb]
  · simp [sd_st, ha]
def sd_cell (ad : Nat → Nat) (ca : Nat → ClassId) (i : Nat) (f : Nat → Int32) : va_E :=
  if i < 16 then
    match i with
    | 0 => .inr (4, [.ref (ad 1), .ref (ad 7), .ref (ad 8), .ref (ad 9), .ref (ad 10), .ref (ad 11), .ref (ad 12), .int (f 7), .ref (ad 13)])
    | 1 => .inr (0, [.ref (ad 2), .ref (ad 3), .ref (ad 4), .ref (ad 5), .ref (ad 6), .int (f 5)])
    | 5 => .inl (ca 1, 120, .inl f)
    | 7 => .inl (ca 0, 24, .inl f)
    | 8 => .inl (ca 0, 6, .inl f)
    | 9 => .inl (ca 3, 24, .inr (.inr (.inr (.inr (fun p => some (ad (16 + p)))))))
    | 12 => .inl (ca 2, 6, .inr (.inr (.inr (.inr (fun p => some (ad (64 + p)))))))
    | 13 => .inr (3, [.ref (ad 14), .ref (ad 15), .int (f 2), .int (f 3)])
    | _ => .inl (ca 0, 120, .inl f)
  else if i < 40 then .inr (2, [.ref (ad 1), .ref (ad (i + 24)), .int (f 2), .int (f 3), .int (f 4), .int (f 5)])
  else if i < 64 then .inl (ca 0, 120, .inl f)
  else if i < 70 then .inr (1, [.ref (ad (i + 6)), .int (f 1), .int (f 2), .int (f 3), .int (f 4)])
  else if i < 76 then .inl (ca 0, 4, .inl f)
  else match i with
    | 76 => .inr (5, [.int (f 0), .ref (ad 77), .ref (ad 78), .ref (ad 79), .ref (ad 80), .ref (ad 81), .ref (ad 82), .int (f 7), .ref (ad 83), .ref (ad 84), .ref (ad 85), .ref (ad 86), .ref (ad 87), .ref (ad 88), .ref (ad 89), .int (f 15), .int (f 16), .int (f 17), .ref (ad 90), .int (f 19), .ref (ad 91), .ref (ad 92), .int (f 22)])
    | 80 => .inl (ca 1, 120, .inl f)
    | 81 => .inl (ca 0, 24, .inl f)
    | 82 => .inl (ca 0, 6, .inl f)
    | 83 => .inl (ca 1, 6, .inl f)
    | 84 => .inl (ca 0, 6, .inl f)
    | 85 => .inl (ca 0, 6, .inl f)
    | 86 => .inl (ca 0, 6, .inl f)
    | 87 => .inl (ca 0, 24, .inl f)
    | 90 => .inl (ca 0, 8, .inl f)
    | _ => .inl (ca 0, 120, .inl f)
theorem sd_cell_row {ad : Nat → Nat} {ca : Nat → ClassId} {f : Nat → Int32} (q : Nat) (h : q < 24) : sd_cell ad ca (16 + q) f = .inr (2, [.ref (ad 1), .ref (ad (40 + q)), .int (f 2), .int (f 3), .int (f 4), .int (f 5)]) := by
  unfold sd_cell
  rw [if_neg (by omega), if_pos (by omega)]
  rw [show 16 + q + 24 = 40 + q by omega]
theorem sd_cell_rowA {ad : Nat → Nat} {ca : Nat → ClassId} {f : Nat → Int32} (q : Nat) (h : q < 24) : sd_cell ad ca (40 + q) f = .inl (ca 0, 120, .inl f) := by
  unfold sd_cell
  rw [if_neg (by omega), if_neg (by omega), if_pos (by omega)]
theorem sd_cell_fun {ad : Nat → Nat} {ca : Nat → ClassId} {f : Nat → Int32} (q : Nat) (h : q < 6) : sd_cell ad ca (64 + q) f = .inr (1, [.ref (ad (70 + q)), .int (f 1), .int (f 2), .int (f 3), .int (f 4)]) := by
  unfold sd_cell
  rw [if_neg (by omega), if_neg (by omega), if_neg (by omega), if_pos (by omega)]
  rw [show 64 + q + 6 = 70 + q by omega]
theorem sd_cell_funA {ad : Nat → Nat} {ca : Nat → ClassId} {f : Nat → Int32} (q : Nat) (h : q < 6) : sd_cell ad ca (70 + q) f = .inl (ca 0, 4, .inl f) := by
  unfold sd_cell
  rw [if_neg (by omega), if_neg (by omega), if_neg (by omega), if_neg (by omega), if_pos (by omega)]
def sd_w (ad : Nat → Nat) (ca : Nat → ClassId) (σ : sd_Mem) : va_W := (List.range 93).map (fun i => (ad i, sd_cell ad ca i (σ i)))
theorem sd_w_at {ad : Nat → Nat} {ca : Nat → ClassId} {σ : sd_Mem} {i : Nat} (hi : i < 93) : (sd_w ad ca σ)[i]? = some (ad i, sd_cell ad ca i (σ i)) := by simp [sd_w, hi]
theorem sd_w_set {ad : Nat → Nat} {ca : Nat → ClassId} {σ : sd_Mem} {i : Nat} (hi : i < 93) {k : Nat} {v : Int32} {e : va_E} (he : e = sd_cell ad ca i (upd (σ i) k v)) : (sd_w ad ca σ).set i (ad i, e) = sd_w ad ca (sd_st σ i k v) := by
  subst he
  apply List.ext_getElem?
  intro j
  by_cases hj : j = i
  · subst hj
    rw [List.getElem?_set_self (by simp [sd_w, hi]), sd_w_at hi]
    simp [sd_st]
  · rw [List.getElem?_set_ne (Ne.symm hj)]
    simp only [sd_w, List.getElem?_map]
    by_cases h : j < 93
    · simp [h, sd_st, hj]
    · simp [h]
def sd_A (ad : Nat → Nat) : Nat → Prop := fun q => ∃ i, i < 93 ∧ q = ad i
def sd_inj (ad : Nat → Nat) : Prop := ∀ i j, i < 93 → j < 93 → ad i = ad j → i = j
theorem sd_D {ad : Nat → Nat} {ca : Nat → ClassId} {σ : sd_Mem} (h : sd_inj ad) : va_D (sd_A ad) (sd_w ad ca σ) := by
  have key : ∀ (k : Nat) (q : Nat × va_E), (sd_w ad ca σ)[k]? = some q → k < 93 ∧ q.1 = ad k := by
    intro k q hk
    by_cases h9 : k < 93
    · rw [sd_w_at h9] at hk
      cases hk
      exact ⟨h9, rfl⟩
    · simp [sd_w, h9] at hk
  refine ⟨fun i j x y hi hj hxy => ?_, fun k q hk => ?_⟩
  · obtain ⟨a1, a2⟩ := key i x hi
    obtain ⟨b1, b2⟩ := key j y hj
    exact h i j a1 b1 (by rw [← a2, ← b2]; exact hxy)
  · obtain ⟨a1, a2⟩ := key k q hk
    exact ⟨k, a1, a2⟩
abbrev sd_ty (ca : Nat → ClassId) : List (ClassId × FieldType) := [(ca 0, .int), (ca 1, .boolean), (ca 2, .object RX1), (ca 3, .object RX2)]
def sd_t0 (j : Nat) : Int32 := ([0, 0, -1, 0, 1, 0] : List Int32).getD j 0
def sd_t1 (j : Nat) : Int32 := ([10000, 1, 7, 100, 10000, 7] : List Int32).getD j 0
def sd_t2 (j : Nat) : Int32 := ([1, 2, 8, 128] : List Int32).getD j 0
def sd_t3 (j : Nat) : Int32 := ([21845, 13107, 3855, 255] : List Int32).getD j 0
def sd_Tb (ad T : Nat → Nat) (U : State) (H : Heap) : Prop :=
  (va_Z "SittingDesk" "LEAST_RULE" "[I" (.ref (T 0)) (sd_A ad) U H ∧ va_T .int (T 0) 6 (fun j => .int (sd_t0 j)) (sd_A ad) U H) ∧
  (va_Z "SittingDesk" "GREATEST_RULE" "[I" (.ref (T 1)) (sd_A ad) U H ∧ va_T .int (T 1) 6 (fun j => .int (sd_t1 j)) (sd_A ad) U H) ∧
  (va_Z "SittingDesk$Funnel" "JUST_THOSE_AHEAD" "[I" (.ref (T 2)) (sd_A ad) U H ∧ va_T .int (T 2) 4 (fun j => .int (sd_t2 j)) (sd_A ad) U H) ∧
  (va_Z "SittingDesk$Funnel" "ALL_WITHOUT" "[I" (.ref (T 3)) (sd_A ad) U H ∧ va_T .int (T 3) 4 (fun j => .int (sd_t3 j)) (sd_A ad) U H)
theorem sd_Tb.go {ad T : Nat → Nat} {u U : State} {H H1 : Heap} (h : sd_Tb ad T u H) (hvm : u.vm.Alike U.vm) (hq : ∀ a : Nat, a < H.size → ¬ sd_A ad a → H1[a]? = H[a]?) : sd_Tb ad T U H1 := by
  obtain ⟨⟨a1, a2⟩, ⟨b1, b2⟩, ⟨c1, c2⟩, ⟨d1, d2⟩⟩ := h
  exact ⟨⟨(a1.kept hq).moved hvm, (a2.kept hq).moved hvm⟩, ⟨(b1.kept hq).moved hvm, (b2.kept hq).moved hvm⟩, ⟨(c1.kept hq).moved hvm, (c2.kept hq).moved hvm⟩, ⟨(d1.kept hq).moved hvm, (d2.kept hq).moved hvm⟩⟩
def sd_Wl (D : va_G) (ad : Nat → Nat) (ca : Nat → ClassId) (T : Nat → Nat) (σ : sd_Mem) (U : State) : Prop := va_P D vwCl (sd_w ad ca σ) U.heap ∧ va_K D vwCl (sd_ty ca) U ∧ sd_inj ad ∧ sd_Tb ad T U U.heap
def sd_rm (k : Nat) : Room := { frames := k, cells := 0, slots := 0, locals := 29 * k }
abbrev sd_X : Type := Program × Launch × Env × Room × State × MethodId × Array Value × List Frame × Method × Code × Nat × Nat × (State → Prop)
def sd_Wd (X : sd_X) (nL : Nat) (D : va_G) (ad : Nat → Nat) (ca : Nat → ClassId) (σ : sd_Mem) (lv : List (Nat × Value)) (pc : Nat) (stk : List Value) : Prop := match X with
  | (p, l, e, R, s, m, args, below, meth, c, kc, ks, Q) => ∀ (H : Heap) (locs : List Loc) (ls : Array Slot), lv_has ls nL lv → va_P D vwCl (sd_w ad ca σ) H → va_S (sd_A ad) s.heap H locs → W p l e R s m args below meth c H locs kc ks Q (F0 m pc ls stk)
def sd_Cx (X : sd_X) (l : Launch) (cc : ByteArray) (own : String) (k nL : Nat) (D : va_G) (ad : Nat → Nat) (ca : Nat → ClassId) (T : Nat → Nat) : Prop := match X with
  | (p, l', _, R, s, m, args, _, _, c, kc, ks, _) => l' = l ∧ p.tables.exec = Jvm.exec ∧ c.code = cc ∧ s.vm.findClass own = some m.cls ∧ c.maxLocals = nL ∧ (∀ w ∈ sd_gt, w.before args s = true) ∧ (k ≤ R.frames ∧ 29 * k ≤ R.locals ∧ kc ≤ R.cells ∧ ks ≤ R.slots) ∧ va_K D vwCl (sd_ty ca) s ∧ sd_inj ad ∧ sd_Tb ad T s s.heap
def sd_Ci (l : Launch) (y : MethodName) (b : ByteArray) (n k : Nat) (D : va_G) (ad : Nat → Nat) (ca : Nat → ClassId) (T : Nat → Nat) (σ : sd_Mem) (as : List Value) (post : Int32 → sd_Mem → Prop) : Prop :=
  Met l y (.code y b n (some .int) :: sd_gt) (sd_rm k) (va_Pc as (sd_Wl D ad ca T σ)) (va_Qi post (sd_Wl D ad ca T) (sd_A ad)) 0 0 (sd_A ad)
def sd_Cz (l : Launch) (y : MethodName) (b : ByteArray) (n k : Nat) (D : va_G) (ad : Nat → Nat) (ca : Nat → ClassId) (T : Nat → Nat) (σ : sd_Mem) (as : List Value) (post : Int32 → sd_Mem → Prop) : Prop :=
  Met l y (.code y b n (some .boolean) :: sd_gt) (sd_rm k) (va_Pc as (sd_Wl D ad ca T σ)) (va_Qi post (sd_Wl D ad ca T) (sd_A ad)) 0 0 (sd_A ad)
def sd_Cv (l : Launch) (y : MethodName) (b : ByteArray) (n k : Nat) (D : va_G) (ad : Nat → Nat) (ca : Nat → ClassId) (T : Nat → Nat) (σ : sd_Mem) (as : List Value) (post : sd_Mem → Prop) : Prop :=
  Met l y (.code y b n none :: sd_gt) (sd_rm k) (va_Pc as (sd_Wl D ad ca T σ)) (va_Qv post (sd_Wl D ad ca T) (sd_A ad)) 0 0 (sd_A ad)
section SDE
variable {l : Launch} {y : MethodName} {b : ByteArray} {n k : Nat} {D : va_G} {ad : Nat → Nat} {ca : Nat → ClassId} {T : Nat → Nat} {σ : sd_Mem} {as : List Value} {own : String}
theorem sd_ent_i {post : Int32 → sd_Mem → Prop} (hy : plainName y.cls = true) (ho : y.cls = own) (hn : (lg_sl as).length ≤ n) (body : ∀ X, sd_Cx X l b own k n D ad ca T → (∀ (σ' : sd_Mem) (lv : List (Nat × Value)) (pc : Nat) (v : Int32), decode b pc = .ok (.ireturn, 1) → post v σ' → sd_Wd X n D ad ca σ' lv pc [.int v]) → sd_Wd X n D ad ca σ (lv_args 0 as) 0 []) : sd_Ci l y b n k D ad ca T σ as post := by
  refine Met.ofW (cc := b) (maxL := n) (ret := some .int) hy rfl ?_
  intro p e s m args below meth c s₁ B hml hv
  obtain ⟨rfl, hP, hK, hI, hT⟩ := hv
  have hx := B.exec
  have hb := B.bytes
  have hr := B.returns
  have hts := atoms_spec (ws := _ :: sd_gt) B.pre
  have hown : s.vm.findClass own = some m.cls := ho ▸ findClass_of_methodNamed B.named
  have hlocks := B.notSynchronized
  have hl := lv_entry as (n := n) hn
  rw [lg_entry_eq]
  exact body (p, l, e, _, s, m, as.toArray, below, meth, c, 0, 0, _) ⟨rfl, hx, hb, hown, hml, fun w hw => hts w (List.mem_cons_of_mem _ hw), ⟨Nat.le_refl _, Nat.le_refl _, Nat.zero_le _, Nat.zero_le _⟩, hK, hI, hT⟩ (fun σ' lv pc v hd hpost H locs ls _ hP' hS => W.iret hx hb hr (fun t ht hW => ⟨⟨v, σ', rfl, hpost, by rw [ht]; exact hP', va_K.moved hW.alike hK, hI, hT.go hW.alike (by rw [ht]; exact hS.2.1)⟩, hS.F ht⟩) hS.2.2 hd) s.heap [] _ hl hP va_S.rf
theorem sd_ent_z {post : Int32 → sd_Mem → Prop} (hy : plainName y.cls = true) (ho : y.cls = own) (hn : (lg_sl as).length ≤ n) (body : ∀ X, sd_Cx X l b own k n D ad ca T → (∀ (σ' : sd_Mem) (lv : List (Nat × Value)) (pc : Nat) (v : Int32), decode b pc = .ok (.ireturn, 1) → (v.toInt = 0 ∨ v.toInt = 1) → post v σ' → sd_Wd X n D ad ca σ' lv pc [.int v]) → sd_Wd X n D ad ca σ (lv_args 0 as) 0 []) : sd_Cz l y b n k D ad ca T σ as post := by
  refine Met.ofW (cc := b) (maxL := n) (ret := some .boolean) hy rfl ?_
  intro p e s m args below meth c s₁ B hml hv
  obtain ⟨rfl, hP, hK, hI, hT⟩ := hv
  have hx := B.exec
  have hb := B.bytes
  have hr := B.returns
  have hts := atoms_spec (ws := _ :: sd_gt) B.pre
  have hown : s.vm.findClass own = some m.cls := ho ▸ findClass_of_methodNamed B.named
  have hlocks := B.notSynchronized
  have hl := lv_entry as (n := n) hn
  rw [lg_entry_eq]
  have hnar : ∀ v : Int32, (v.toInt = 0 ∨ v.toInt = 1) → narrow .boolean (.int v) = .int v := by
    intro v hv
    have h2 : v = 0 ∨ v = 1 := by
      rcases hv with h | h
      · exact Or.inl (Int32.toInt_inj.mp (by rw [h]; rfl))
      · exact Or.inr (Int32.toInt_inj.mp (by rw [h]; rfl))
    rcases h2 with rfl | rfl <;> rfl
  exact body (p, l, e, _, s, m, as.toArray, below, meth, c, 0, 0, _) ⟨rfl, hx, hb, hown, hml, fun w hw => hts w (List.mem_cons_of_mem _ hw), ⟨Nat.le_refl _, Nat.le_refl _, Nat.zero_le _, Nat.zero_le _⟩, hK, hI, hT⟩ (fun σ' lv pc v hd hv hpost H locs ls _ hP' hS => W.zret hx hb hr (hnar v hv) (fun t ht hW => ⟨⟨v, σ', rfl, hpost, by rw [ht]; exact hP', va_K.moved hW.alike hK, hI, hT.go hW.alike (by rw [ht]; exact hS.2.1)⟩, hS.F ht⟩) hS.2.2 hd) s.heap [] _ hl hP va_S.rf
theorem sd_ent_v {post : sd_Mem → Prop} (hy : plainName y.cls = true) (ho : y.cls = own) (hn : (lg_sl as).length ≤ n) (body : ∀ X, sd_Cx X l b own k n D ad ca T → (∀ (σ' : sd_Mem) (lv : List (Nat × Value)) (pc : Nat), decode b pc = .ok (.return_, 1) → post σ' → sd_Wd X n D ad ca σ' lv pc []) → sd_Wd X n D ad ca σ (lv_args 0 as) 0 []) : sd_Cv l y b n k D ad ca T σ as post := by
  refine Met.ofW (cc := b) (maxL := n) (ret := none) hy rfl ?_
  intro p e s m args below meth c s₁ B hml hv
  obtain ⟨rfl, hP, hK, hI, hT⟩ := hv
  have hx := B.exec
  have hb := B.bytes
  have hr := B.returns
  have hts := atoms_spec (ws := _ :: sd_gt) B.pre
  have hown : s.vm.findClass own = some m.cls := ho ▸ findClass_of_methodNamed B.named
  have hlocks := B.notSynchronized
  have hl := lv_entry as (n := n) hn
  rw [lg_entry_eq]
  exact body (p, l, e, _, s, m, as.toArray, below, meth, c, 0, 0, _) ⟨rfl, hx, hb, hown, hml, fun w hw => hts w (List.mem_cons_of_mem _ hw), ⟨Nat.le_refl _, Nat.le_refl _, Nat.zero_le _, Nat.zero_le _⟩, hK, hI, hT⟩ (fun σ' lv pc hd hpost H locs ls _ hP' hS => W.vret hx hb hr (fun t ht hW => ⟨⟨σ', rfl, hpost, by rw [ht]; exact hP', va_K.moved hW.alike hK, hI, hT.go hW.alike (by rw [ht]; exact hS.2.1)⟩, hS.F ht⟩) hS.2.2 hd) s.heap [] _ hl hP va_S.rf
end SDE

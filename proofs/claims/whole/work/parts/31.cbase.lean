/-! constructors: the world is a list of cells, the newest first -/
theorem sc_D_pw {A : Nat → Prop} {ws : va_W} : va_D A ws ↔ ws.Pairwise (fun a b => a.1 ≠ b.1) ∧ ∀ q ∈ ws, A q.1 := by
  constructor
  · intro h
    refine ⟨List.pairwise_iff_getElem.mpr (fun i j hi hj hij e => ?_), fun q hq => ?_⟩
    · have := h.1 i j _ _ (List.getElem?_eq_getElem hi) (List.getElem?_eq_getElem hj) e
      omega
    · obtain ⟨k, hk⟩ := List.getElem?_of_mem hq
      exact h.2 k q hk
  · rintro ⟨h1, h2⟩
    refine ⟨fun i j p q hi hj e => ?_, fun k q hk => h2 q (List.mem_of_getElem? hk)⟩
    obtain ⟨hi', rfl⟩ := List.getElem?_eq_some_iff.mp hi
    obtain ⟨hj', rfl⟩ := List.getElem?_eq_some_iff.mp hj
    have h3 := List.pairwise_iff_getElem.mp h1
    rcases Nat.lt_trichotomy i j with c | c | c
    · exact absurd e (h3 i j hi' hj' c)
    · exact c
    · exact absurd e.symm (h3 j i hj' hi' c)
theorem sc_D_perm {A : Nat → Prop} {ws ws' : va_W} (hp : ws.Perm ws') (h : va_D A ws) : va_D A ws' := by
  rw [sc_D_pw] at h ⊢
  exact ⟨(List.Perm.pairwise_iff (fun h => Ne.symm h) hp).mp h.1, fun q hq => h.2 q (hp.mem_iff.mpr hq)⟩
theorem sc_P_perm {D : va_G} {cl : List vw_C} {H : Heap} {ws ws' : va_W} (hp : ws.Perm ws') (h : va_P D cl ws H) : va_P D cl ws' H := by
  intro k q hk
  obtain ⟨i, hi⟩ := List.getElem?_of_mem (hp.mem_iff.mpr (List.mem_of_getElem? hk))
  exact h i q hi
theorem sc_by {D : va_G} {cl : List vw_C} {A : Nat → Prop} {W W' : va_W} {n : Nat} (π : Nat → Nat) (h : ∀ k, k < n → W[π k]? = W'[k]?) (hn : W'.length = n) (hπ : ∀ i, i < n → ∀ j, j < n → π i = π j → i = j) {H : Heap} : (va_P D cl W H → va_P D cl W' H) ∧ (va_D A W → va_D A W') := by
  have key : ∀ k q, W'[k]? = some q → W[π k]? = some q ∧ k < n := fun k q hk => by
    have hl := (List.getElem?_eq_some_iff.mp hk).1
    exact ⟨by rw [h k (by omega)]; exact hk, by omega⟩
  exact ⟨fun hP k q hk => hP _ q (key k q hk).1, fun hD => ⟨fun i j p q hi hj e => hπ i (key i p hi).2 j (key j q hj).2 (hD.1 _ _ p q (key i p hi).1 (key j q hj).1 e), fun k q hk => hD.2 _ q (key k q hk).1⟩⟩
theorem sc_frP {D : va_G} {cl : List vw_C} {H : Heap} {ws : va_W} {x : Nat × va_E} (h : va_P D cl (ws ++ [x]) H) : va_P D cl (x :: ws) H := sc_P_perm (List.perm_append_singleton x ws) h
theorem sc_frD {A : Nat → Prop} {ws : va_W} {x : Nat × va_E} (h : va_D A (ws ++ [x])) : va_D A (x :: ws) := sc_D_perm (List.perm_append_singleton x ws) h
theorem sc_rot2 (a b : Nat × va_E) (P T : va_W) : (a :: b :: (P ++ T)).Perm (P ++ (a :: b :: T)) := by
  have h1 : (P ++ (a :: b :: T)).Perm (a :: (P ++ (b :: T))) := List.perm_middle
  have h2 : (P ++ (b :: T)).Perm (b :: (P ++ T)) := List.perm_middle
  exact (h1.trans (h2.cons a)).symm
theorem sc_join {A0 : Nat → Prop} {D : va_G} {cl : List vw_C} {H H1 : Heap} {x : Nat × va_E} {ws w1 : va_W} (hP : va_P D cl (x :: ws) H) (hD : va_D A0 (x :: ws)) (hk : ∀ q : Nat, q < H.size → ¬ va_A [x] H.size q → H1[q]? = H[q]?) (hF : ∀ q, va_A [x] H.size q → A0 q) (hP1 : va_P D cl w1 H1) (hD1 : va_D (va_A [x] H.size) w1) : va_P D cl (w1 ++ ws) H1 ∧ va_D A0 (w1 ++ ws) := by
  have apart : ∀ (k : Nat) (q : Nat × va_E), ws[k]? = some q → q.1 < H.size ∧ ¬ va_A [x] H.size q.1 := by
    intro k q hq
    have h2 : (x :: ws)[k + 1]? = some q := hq
    have hl := (hP (k + 1) q h2).lt
    refine ⟨hl, fun h => ?_⟩
    rcases h with ⟨k2, e, h⟩ | h
    · have hz : k2 < 1 := (List.getElem?_eq_some_iff.mp h).1
      have hz0 : k2 = 0 := by omega
      subst hz0
      have hx : (x :: ws)[0]? = some (q.1, e) := h
      have := hD.1 (k + 1) 0 q (q.1, e) h2 hx rfl
      omega
    · omega
  refine ⟨va_P.app hP1 (fun k q hq => ?_), va_D.app (hD1.weaken (fun k q _ h => hF q.1 h)) ⟨fun i j p q hi hj e => ?_, fun k q hk => hD.2 (k + 1) q hk⟩ (fun i j p q hp hq e => ?_)⟩
  · obtain ⟨g1, g2⟩ := apart k q hq
    exact (hP (k + 1) q hq).kept (hk q.1 g1 g2)
  · have := hD.1 (i + 1) (j + 1) p q hi hj e
    omega
  · exact (apart j q hq).2 (by rw [← e]; exact hD1.2 i p hp)
theorem sc_arrV {cI : ClassId} {N : Nat} {f g : Nat → Value} (h : ∀ j, j < N → f j = g j) : arrV cI N f = arrV cI N g := by
  unfold arrV
  have e : (fun j : Fin N => f j.val) = fun j => g j.val := funext fun j => h j.val j.isLt
  rw [e]
def sc_k (ca : Nat → ClassId) (U : State) : Prop := (∀ c, U.vm.findClass ("[" ++ FieldType.int.toString) = some c → c = ca 0) ∧ (∀ c, U.vm.findClass ("[" ++ FieldType.boolean.toString) = some c → c = ca 1) ∧ (∀ c, U.vm.findClass ("[" ++ (FieldType.object RX1).toString) = some c → c = ca 2) ∧ (∀ c, U.vm.findClass ("[" ++ (FieldType.object RX2).toString) = some c → c = ca 3)
theorem sc_k.moved {ca : Nat → ClassId} {u U : State} (hvm : u.vm.Alike U.vm) (h : sc_k ca u) : sc_k ca U := by
  obtain ⟨h1, h2, h3, h4⟩ := h
  exact ⟨fun c hc => h1 c (by rw [hvm.findClass] at hc; exact hc), fun c hc => h2 c (by rw [hvm.findClass] at hc; exact hc), fun c hc => h3 c (by rw [hvm.findClass] at hc; exact hc), fun c hc => h4 c (by rw [hvm.findClass] at hc; exact hc)⟩
def sc_s (X : sd_X) : State := match X with
  | (_, _, _, _, s, _, _, _, _, _, _, _, _) => s
def sc_I (X : sd_X) : Prop := match X with
  | (_, _, _, _, _, _, _, _, meth, _, _, _, _) => meth.name = "<init>"
def sc_Wd (X : sd_X) (A : Nat → Prop) (nL : Nat) (D : va_G) (ws : va_W) (kc ks : Nat) (lv : List (Nat × Value)) (pc : Nat) (stk : List Value) : Prop := match X with
  | (p, l, e, R, s, m, args, below, meth, c, _, _, Q) => ∀ (H : Heap) (locs : List Loc) (ls : Array Slot), lv_has ls nL lv → va_P D vwCl ws H → va_D A ws → va_S A s.heap H locs → W p l e R s m args below meth c H locs kc ks Q (F0 m pc ls stk)
def sc_Cx (X : sd_X) (l : Launch) (cc : ByteArray) (own : String) (R0 : Room) (nL : Nat) (A : Nat → Prop) (D : va_G) (ca : Nat → ClassId) : Prop := match X with
  | (p, l', _, R, s, m, args, _, _, c, _, _, _) => l' = l ∧ p.tables.exec = Jvm.exec ∧ c.code = cc ∧ s.vm.findClass own = some m.cls ∧ c.maxLocals = nL ∧ (∀ w ∈ sd_gt, w.before args s = true) ∧ R = R0 ∧ va_K D vwCl [] s ∧ sc_k ca s ∧ (∀ q, s.heap.size ≤ q → A q)
def sc_C (l : Launch) (y : MethodName) (b : ByteArray) (n : Nat) (R : Room) (D : va_G) (ca : Nat → ClassId) (E : State → Prop) (as : List Value) (x : Nat × va_E) (w1 : (Nat → Nat) → va_W) (tys : List (ClassId × FieldType)) : Prop :=
  ∀ sz : Nat, Met l y (.code y b n none :: sd_gt) R (va_Pc as (fun U => U.heap.size = sz ∧ va_P D vwCl [x] U.heap ∧ va_K D vwCl [] U ∧ sc_k ca U ∧ E U)) (va_Qv (fun _ => True) (fun (u : Nat → Nat) t => va_P D vwCl (w1 u) t.heap ∧ va_K D vwCl tys t ∧ va_D (va_A [x] sz) (w1 u)) (va_A [x] sz)) R.cells R.slots (va_A [x] sz)
theorem sc_ent {l : Launch} {y : MethodName} {b : ByteArray} {n : Nat} {R : Room} {D : va_G} {ca : Nat → ClassId} {E : State → Prop} {as : List Value} {x : Nat × va_E} {w1 : (Nat → Nat) → va_W} {tys : List (ClassId × FieldType)} {own : String} (hy : plainName y.cls = true) (ho : y.cls = own) (hnm : y.name = "<init>") (hn : (lg_sl as).length ≤ n)
    (body : ∀ (X : sd_X) (A : Nat → Prop), sc_Cx X l b own R n A D ca → sc_I X → E (sc_s X) → (∀ (u : Nat → Nat) (lv : List (Nat × Value)) (pc kc ks : Nat), kc ≤ R.cells → ks ≤ R.slots → decode b pc = .ok (.return_, 1) → va_K D vwCl tys (sc_s X) → sc_Wd X A n D (w1 u) kc ks lv pc []) → sc_Wd X A n D [x] 0 0 (lv_args 0 as) 0 []) : sc_C l y b n R D ca E as x w1 tys := by
  intro sz
  refine Met.ofW (cc := b) (maxL := n) (ret := none) hy rfl ?_
  intro p e s m args below meth c s₁ B hml hv
  obtain ⟨rfl, hsz, hP, hK, hk, hE⟩ := hv
  have hx := B.exec
  have hb := B.bytes
  have hr := B.returns
  have hts := atoms_spec (ws := _ :: sd_gt) B.pre
  have hown : s.vm.findClass own = some m.cls := ho ▸ findClass_of_methodNamed B.named
  have hlocks := B.notSynchronized
  have hin : meth.name = "<init>" := (name_of_methodNamed B.named B.method).1.trans hnm
  subst hsz
  have hl := lv_entry as (n := n) hn
  rw [lg_entry_eq]
  have hD : va_D (va_A [x] s.heap.size) [x] := by
    refine ⟨fun i j p q hi hj _ => ?_, fun k q hk => Or.inl ⟨k, q.2, hk⟩⟩
    have h1 : i < 1 := (List.getElem?_eq_some_iff.mp hi).1
    have h2 : j < 1 := (List.getElem?_eq_some_iff.mp hj).1
    omega
  exact body (p, l, e, R, s, m, as.toArray, below, meth, c, 0, 0, _) (va_A [x] s.heap.size) ⟨rfl, hx, hb, hown, hml, fun w hw => hts w (List.mem_cons_of_mem _ hw), rfl, hK, hk, fun q h => Or.inr h⟩ hin hE (fun u lv pc kc ks h1 h2 hd hKt H locs ls _ hP' hD' hS => W.widen (k := R.cells) (n := R.slots) h1 h2 (W.vret hx hb hr (fun t ht hW => ⟨⟨u, rfl, trivial, by rw [ht]; exact hP', va_K.moved hW.alike hKt, hD'⟩, hS.F ht⟩) hS.2.2 hd)) s.heap [] _ hl hP hD va_S.rf
section SCR
variable {X : sd_X} {l : Launch} {cc : ByteArray} {own : String} {R0 : Room} {nL : Nat} {A : Nat → Prop} {D : va_G} {ca : Nat → ClassId} {ws : va_W} {kc ks : Nat} {lv : List (Nat × Value)} {pc : Nat} {stk : List Value}
theorem sc_iconst (C : sc_Cx X l cc own R0 nL A D ca) {n : Int} (d : decode cc pc = .ok (.iconst n, 1)) (h : (Int32.ofInt n).toInt = n) (kk : ∀ x : Int32, x.toInt = n → sc_Wd X A nL D ws kc ks lv (pc + 1) (.int x :: stk)) : sc_Wd X A nL D ws kc ks lv pc (stk) := by
  obtain ⟨p, l', e, R, s, m, args, below, meth, c, kc0, ks0, Q⟩ := X
  obtain ⟨rfl, hx, hb, hown, hml, hts, rfl, hK, hk0, hA⟩ := C
  intro H locs ls hl hP hD hS
  exact lv_iconst hx hb d rfl (kk _ h H locs ls hl hP hD hS)
theorem sc_bipush (C : sc_Cx X l cc own R0 nL A D ca) {n : Int} (d : decode cc pc = .ok (.bipush n, 2)) (h : (Int8.ofInt n).toInt32.toInt = n) (kk : ∀ x : Int32, x.toInt = n → sc_Wd X A nL D ws kc ks lv (pc + 2) (.int x :: stk)) : sc_Wd X A nL D ws kc ks lv pc (stk) := by
  obtain ⟨p, l', e, R, s, m, args, below, meth, c, kc0, ks0, Q⟩ := X
  obtain ⟨rfl, hx, hb, hown, hml, hts, rfl, hK, hk0, hA⟩ := C
  intro H locs ls hl hP hD hS
  exact lv_bipush hx hb d rfl (kk _ h H locs ls hl hP hD hS)
theorem sc_aload_n (C : sc_Cx X l cc own R0 nL A D ca) {j : Fin 4} {i : Nat} {x : Nat} (d : decode cc pc = .ok (.aload_n j, 1)) (q : Nat) (hq : lv[q]? = some (i, .ref x)) (hi : (j : Nat) = i) (kk : sc_Wd X A nL D ws kc ks lv (pc + 1) (.ref x :: stk)) : sc_Wd X A nL D ws kc ks lv pc (stk) := by
  obtain ⟨p, l', e, R, s, m, args, below, meth, c, kc0, ks0, Q⟩ := X
  obtain ⟨rfl, hx, hb, hown, hml, hts, rfl, hK, hk0, hA⟩ := C
  intro H locs ls hl hP hD hS
  exact lv_aload_n hx hb d hi (lv_at hl q hq) (kk H locs ls hl hP hD hS)
theorem sc_aload (C : sc_Cx X l cc own R0 nL A D ca) {i : Nat} {x : Nat} (d : decode cc pc = .ok (.aload i, 2)) (q : Nat) (hq : lv[q]? = some (i, .ref x)) (kk : sc_Wd X A nL D ws kc ks lv (pc + 2) (.ref x :: stk)) : sc_Wd X A nL D ws kc ks lv pc (stk) := by
  obtain ⟨p, l', e, R, s, m, args, below, meth, c, kc0, ks0, Q⟩ := X
  obtain ⟨rfl, hx, hb, hown, hml, hts, rfl, hK, hk0, hA⟩ := C
  intro H locs ls hl hP hD hS
  exact lv_aload hx hb d (lv_at hl q hq) (kk H locs ls hl hP hD hS)
theorem sc_iload_n (C : sc_Cx X l cc own R0 nL A D ca) {j : Fin 4} {i : Nat} {x : Int32} (d : decode cc pc = .ok (.iload_n j, 1)) (q : Nat) (hq : lv[q]? = some (i, .int x)) (hi : (j : Nat) = i) (kk : sc_Wd X A nL D ws kc ks lv (pc + 1) (.int x :: stk)) : sc_Wd X A nL D ws kc ks lv pc (stk) := by
  obtain ⟨p, l', e, R, s, m, args, below, meth, c, kc0, ks0, Q⟩ := X
  obtain ⟨rfl, hx, hb, hown, hml, hts, rfl, hK, hk0, hA⟩ := C
  intro H locs ls hl hP hD hS
  exact lv_iload_n hx hb d hi (lv_at hl q hq) (kk H locs ls hl hP hD hS)
theorem sc_istore_n (C : sc_Cx X l cc own R0 nL A D ca) {j : Fin 4} {i : Nat} {x : Int32} {lv' : List (Nat × Value)} (d : decode cc pc = .ok (.istore_n j, 1)) (hi : (j : Nat) = i) (hn : i < nL) (h : (i, Value.int x) :: lv.filter (fun q => !(q.1 == i) && !(q.1 + 1 == i && q.2.category == 2)) = lv') (kk : sc_Wd X A nL D ws kc ks lv' (pc + 1) (stk)) : sc_Wd X A nL D ws kc ks lv pc (.int x :: stk) := by
  obtain ⟨p, l', e, R, s, m, args, below, meth, c, kc0, ks0, Q⟩ := X
  obtain ⟨rfl, hx, hb, hown, hml, hts, rfl, hK, hk0, hA⟩ := C
  intro H locs ls hl hP hD hS
  exact lv_istore_n hx hb d hi hl hn h (fun ls hl => kk H locs ls hl hP hD hS)
theorem sc_astore_n (C : sc_Cx X l cc own R0 nL A D ca) {j : Fin 4} {i : Nat} {x : Nat} {lv' : List (Nat × Value)} (d : decode cc pc = .ok (.astore_n j, 1)) (hi : (j : Nat) = i) (hn : i < nL) (h : (i, Value.ref x) :: lv.filter (fun q => !(q.1 == i) && !(q.1 + 1 == i && q.2.category == 2)) = lv') (kk : sc_Wd X A nL D ws kc ks lv' (pc + 1) (stk)) : sc_Wd X A nL D ws kc ks lv pc (.ref x :: stk) := by
  obtain ⟨p, l', e, R, s, m, args, below, meth, c, kc0, ks0, Q⟩ := X
  obtain ⟨rfl, hx, hb, hown, hml, hts, rfl, hK, hk0, hA⟩ := C
  intro H locs ls hl hP hD hS
  exact lv_astore_n hx hb d hi hl hn h (fun ls hl => kk H locs ls hl hP hD hS)
theorem sc_iinc (C : sc_Cx X l cc own R0 nL A D ca) {i : Nat} {n : Int} {x : Int32} (d : decode cc pc = .ok (.iinc i n, 3)) (q : Nat) (hq : lv[q]? = some (i, .int x)) (hn : i < nL) (hn2 : (Int32.ofInt n).toInt = n) (hr : -2147483648 ≤ x.toInt + n ∧ x.toInt + n < 2147483648) (lv' : Int32 → List (Nat × Value)) (h : ∀ z : Int32, (i, Value.int z) :: lv.filter (fun q => !(q.1 == i) && !(q.1 + 1 == i && q.2.category == 2)) = lv' z) (kk : ∀ z : Int32, z.toInt = x.toInt + n → sc_Wd X A nL D ws kc ks (lv' z) (pc + 3) (stk)) : sc_Wd X A nL D ws kc ks lv pc (stk) := by
  obtain ⟨p, l', e, R, s, m, args, below, meth, c, kc0, ks0, Q⟩ := X
  obtain ⟨rfl, hx, hb, hown, hml, hts, rfl, hK, hk0, hA⟩ := C
  intro H locs ls hl hP hD hS
  refine lv_iinc hx hb d hl hq rfl hn (h _) (fun ls hl => kk _ ?_ H locs ls hl hP hD hS)
  rw [sd_addI (by rw [hn2]; exact hr.1) (by rw [hn2]; exact hr.2), hn2]
theorem sc_goto (C : sc_Cx X l cc own R0 nL A D ca) {off : Int} (t : Nat) (d : decode cc pc = .ok (.goto off, 3)) (ht : (pc : Int) + off = (t : Int)) (kk : sc_Wd X A nL D ws kc ks lv t (stk)) : sc_Wd X A nL D ws kc ks lv pc (stk) := by
  obtain ⟨p, l', e, R, s, m, args, below, meth, c, kc0, ks0, Q⟩ := X
  obtain ⟨rfl, hx, hb, hown, hml, hts, rfl, hK, hk0, hA⟩ := C
  intro H locs ls hl hP hD hS
  exact lv_goto hx hb d ht (kk H locs ls hl hP hD hS)
theorem sc_icmp_ge (C : sc_Cx X l cc own R0 nL A D ca) {x y : Int32} {off : Int} (t : Nat) (d : decode cc pc = .ok (.if_icmp .ge off, 3)) (ht : (pc : Int) + off = (t : Int)) (kt : y.toInt ≤ x.toInt → sc_Wd X A nL D ws kc ks lv t (stk)) (kf : x.toInt < y.toInt → sc_Wd X A nL D ws kc ks lv (pc + 3) (stk)) : sc_Wd X A nL D ws kc ks lv pc (.int y :: .int x :: stk) := by
  obtain ⟨p, l', e, R, s, m, args, below, meth, c, kc0, ks0, Q⟩ := X
  obtain ⟨rfl, hx, hb, hown, hml, hts, rfl, hK, hk0, hA⟩ := C
  intro H locs ls hl hP hD hS
  exact lv_icmp_ge hx hb d ht (fun q => kt (by first | (rw [q]; done) | (exact fun z => q (Int32.toInt_inj.mp z)) | (have q1 := sd_ilt q; omega) | (have q1 := sd_inlt q; omega) | (have q1 := sd_ile q; omega) | (have q1 := sd_inle q; omega)) H locs ls hl hP hD hS) (fun q => kf (by first | (rw [q]; done) | (exact fun z => q (Int32.toInt_inj.mp z)) | (have q1 := sd_ilt q; omega) | (have q1 := sd_inlt q; omega) | (have q1 := sd_ile q; omega) | (have q1 := sd_inle q; omega)) H locs ls hl hP hD hS)
theorem sc_dup (C : sc_Cx X l cc own R0 nL A D ca) {v : Value} (d : decode cc pc = .ok (.dup, 1)) (hv : v.category = 1) (kk : sc_Wd X A nL D ws kc ks lv (pc + 1) (v :: v :: stk)) : sc_Wd X A nL D ws kc ks lv pc (v :: stk) := by
  obtain ⟨p, l', e, R, s, m, args, below, meth, c, kc0, ks0, Q⟩ := X
  obtain ⟨rfl, hx, hb, hown, hml, hts, rfl, hK, hk0, hA⟩ := C
  intro H locs ls hl hP hD hS
  exact lv_dup hx hb d hv (kk H locs ls hl hP hD hS)
theorem sc_objInit (C : sc_Cx X l cc own R0 nL A D ca) {idx h : Nat} (w : Cond.methodLink own idx objectInit ∈ sd_gt) (hf : 1 ≤ R0.frames) (hlo : (stk.map fun v => v.category).sum + 12 ≤ R0.locals) (d : decode cc pc = .ok (.invokespecial idx, 3)) (kk : sc_Wd X A nL D ws kc ks lv (pc + 3) stk) : sc_Wd X A nL D ws kc ks lv pc (.ref h :: stk) := by
  obtain ⟨p, l', e, R, s, m, args, below, meth, c, kc0, ks0, Q⟩ := X
  obtain ⟨rfl, hx, hb, hown, hml, hts, rfl, hK, hk0, hA⟩ := C
  intro H locs ls hl hP hD hS
  refine W.objInit hx hb hown (hts _ w) (hts _ wi_Obj) (hts _ wc_Obj) rfl (by rw [hml]; exact hl.1) rfl d hf (by show 2 * 0 + _ + 12 ≤ _; omega) ?_
  exact W.eq (g2 := F0 m (pc + 3) ls stk) rfl (kk H locs ls hl hP hD hS)
theorem sc_newi (C : sc_Cx X l cc own R0 nL A D ca) {x : Int32} (N : Nat) (hv : x.toInt = (N : Int)) (hN : N ≤ 120) (hc : kc + 1 ≤ R0.cells) (hs : ks + N ≤ R0.slots) (d : decode cc pc = .ok (.newarray .int, 2)) (kk : ∀ q : Nat, va_K D vwCl [(ca 0, .int)] (sc_s X) → sc_Wd X A nL D ((q, .inl (ca 0, N, .inl (fun _ => 0))) :: ws) (kc + 1) (ks + N) lv (pc + 2) (.ref q :: stk)) : sc_Wd X A nL D ws kc ks lv pc (.int x :: stk) := by
  obtain ⟨p, l', e, R, s, m, args, below, meth, c, kc0, ks0, Q⟩ := X
  obtain ⟨rfl, hx, hb, hown, hml, hts, rfl, hK, hk0, hA⟩ := C
  intro H locs ls hl hP hD hS
  refine va_newa (atype := .int) (a0 := (N, .inl (fun _ => 0))) (ty := .int) hx hb (hts _ wr_int) rfl hK hP hD hS hA (fun cA => rfl) (fun h => by have h1 := sd_ilt h; rw [show (0 : Int32).toInt = 0 from rfl] at h1; omega) (sd_clamp hv) (by show N * 4 ≤ _; omega) hc hs d (fun q cA H1 hK1 hP1 hD1 hS1 => ?_)
  have e : cA = ca 0 := hk0.1 cA (hK1.2 0 _ rfl).2
  subst e
  exact kk q hK1 H1 locs ls hl (sc_frP hP1) (sc_frD hD1) hS1
theorem sc_newz (C : sc_Cx X l cc own R0 nL A D ca) {x : Int32} (N : Nat) (hv : x.toInt = (N : Int)) (hN : N ≤ 120) (hc : kc + 1 ≤ R0.cells) (hs : ks + N ≤ R0.slots) (d : decode cc pc = .ok (.newarray .boolean, 2)) (kk : ∀ q : Nat, va_K D vwCl [(ca 1, .boolean)] (sc_s X) → sc_Wd X A nL D ((q, .inl (ca 1, N, .inl (fun _ => 0))) :: ws) (kc + 1) (ks + N) lv (pc + 2) (.ref q :: stk)) : sc_Wd X A nL D ws kc ks lv pc (.int x :: stk) := by
  obtain ⟨p, l', e, R, s, m, args, below, meth, c, kc0, ks0, Q⟩ := X
  obtain ⟨rfl, hx, hb, hown, hml, hts, rfl, hK, hk0, hA⟩ := C
  intro H locs ls hl hP hD hS
  refine va_newa (atype := .boolean) (a0 := (N, .inl (fun _ => 0))) (ty := .boolean) hx hb (hts _ wr_boolean) rfl hK hP hD hS hA (fun cA => rfl) (fun h => by have h1 := sd_ilt h; rw [show (0 : Int32).toInt = 0 from rfl] at h1; omega) (sd_clamp hv) (by show N * 1 ≤ _; omega) hc hs d (fun q cA H1 hK1 hP1 hD1 hS1 => ?_)
  have e : cA = ca 1 := hk0.2.1 cA (hK1.2 0 _ rfl).2
  subst e
  exact kk q hK1 H1 locs ls hl (sc_frP hP1) (sc_frD hD1) hS1
theorem sc_newq (C : sc_Cx X l cc own R0 nL A D ca) {Cn : String} {idx : Nat} {cq : ClassId} {x : Int32} (w : Cond.classLink own idx Cn ∈ sd_gt) (hAO : va_AO Cn (sc_s X)) (hcq : ∀ c, (sc_s X).vm.findClass ("[" ++ (FieldType.object Cn).toString) = some c → c = cq) (N : Nat) (hv : x.toInt = (N : Int)) (hN : N ≤ 120) (hc : kc + 1 ≤ R0.cells) (hs : ks + N ≤ R0.slots) (d : decode cc pc = .ok (.anewarray idx, 3)) (kk : ∀ q : Nat, va_K D vwCl [(cq, .object Cn)] (sc_s X) → sc_Wd X A nL D ((q, .inl (cq, N, .inr (.inr (.inr (.inr (fun _ => none)))))) :: ws) (kc + 1) (ks + N) lv (pc + 3) (.ref q :: stk)) : sc_Wd X A nL D ws kc ks lv pc (.int x :: stk) := by
  obtain ⟨p, l', e, R, s, m, args, below, meth, c, kc0, ks0, Q⟩ := X
  obtain ⟨rfl, hx, hb, hown, hml, hts, rfl, hK, hk0, hA⟩ := C
  intro H locs ls hl hP hD hS
  refine va_newq (C := Cn) hx hb hown (hts _ w) hAO hK hP hD hS hA (fun h => by have h1 := sd_ilt h; rw [show (0 : Int32).toInt = 0 from rfl] at h1; omega) (sd_clamp hv) (by omega) hc hs d (fun q cA H1 hK1 hP1 hD1 hS1 => ?_)
  obtain ⟨-, -, -, -, -, h6⟩ := (hK1.2 0 _ rfl).2
  have e : cA = cq := hcq cA h6
  subst e
  exact kk q hK1 H1 locs ls hl (sc_frP hP1) (sc_frD hD1) hS1
theorem sc_putF (C : sc_Cx X l cc own R0 nL A D ca) (hI : sc_I X) (q0 : Nat) {a ci N idx : Nat} {fs : List Value} {Cn : String} {TT : u_T} {v : Value} {ty : FieldType} {ws' : va_W} (he : ws[q0]? = some (a, .inr (ci, fs))) (hcl : vwCl[ci]? = some (Cn, TT, N)) (kf : Nat) (hk : kf < N) (w : Cond.fieldLink own idx (TT kf).1 (TT kf).2.1 (TT kf).2.2.1 ∈ sd_gt) (hf : (TT kf).2.2.2 = true) (hdecl : (TT kf).1 = own) (hd : parseFieldDescriptor (TT kf).2.2.1 = some ty) (hn : narrow ty v = v) (hfit : fits ty v = true) (hle : kf < fs.length) (hw : ws.set q0 (a, .inr (ci, fs.set kf v)) = ws') (d : decode cc pc = .ok (.putfield idx, 3)) (kk : sc_Wd X A nL D ws' kc ks lv (pc + 3) stk) : sc_Wd X A nL D ws kc ks lv pc (v :: .ref a :: stk) := by
  obtain ⟨p, l', e, R, s, m, args, below, meth, c, kc0, ks0, Q⟩ := X
  obtain ⟨rfl, hx, hb, hown, hml, hts, rfl, hK, hk0, hA⟩ := C
  intro H locs ls hl hP hD hS
  obtain ⟨ty0, h1, h2⟩ := sd_nmty hcl
  refine va_putF (D := D) (tys := []) hx hb hts (sd_in hcl) ty0 h1 h2 hown hK hP hD hS q0 he hcl kf hk (hts _ w) (fun _ h => h) hf hI hdecl hd hn hfit hle d (fun H1 locs1 hP1 hD1 hS1 => ?_)
  rw [hw] at hP1 hD1
  exact kk H1 locs1 ls hl hP1 hD1 hS1
theorem sc_put (C : sc_Cx X l cc own R0 nL A D ca) (q0 : Nat) {a ci N idx : Nat} {fs : List Value} {Cn : String} {TT : u_T} {v : Value} {ty : FieldType} {ws' : va_W} (he : ws[q0]? = some (a, .inr (ci, fs))) (hcl : vwCl[ci]? = some (Cn, TT, N)) (kf : Nat) (hk : kf < N) (w : Cond.fieldLink own idx (TT kf).1 (TT kf).2.1 (TT kf).2.2.1 ∈ sd_gt) (hf : (TT kf).2.2.2 = false) (hd : parseFieldDescriptor (TT kf).2.2.1 = some ty) (hn : narrow ty v = v) (hfit : fits ty v = true) (hle : kf < fs.length) (hw : ws.set q0 (a, .inr (ci, fs.set kf v)) = ws') (d : decode cc pc = .ok (.putfield idx, 3)) (kk : sc_Wd X A nL D ws' kc ks lv (pc + 3) stk) : sc_Wd X A nL D ws kc ks lv pc (v :: .ref a :: stk) := by
  obtain ⟨p, l', e, R, s, m, args, below, meth, c, kc0, ks0, Q⟩ := X
  obtain ⟨rfl, hx, hb, hown, hml, hts, rfl, hK, hk0, hA⟩ := C
  intro H locs ls hl hP hD hS
  obtain ⟨ty0, h1, h2⟩ := sd_nmty hcl
  refine va_put (D := D) (tys := []) hx hb hts (sd_in hcl) ty0 h1 h2 hown hK hP hD hS q0 he hcl kf hk (hts _ w) (fun _ h => h) hf hd hn hfit hle d (fun H1 locs1 hP1 hD1 hS1 => ?_)
  rw [hw] at hP1 hD1
  exact kk H1 locs1 ls hl hP1 hD1 hS1
theorem sc_get (C : sc_Cx X l cc own R0 nL A D ca) (q0 : Nat) {a ci N idx : Nat} {fs : List Value} {Cn : String} {TT : u_T} {v : Value} (he : ws[q0]? = some (a, .inr (ci, fs))) (hcl : vwCl[ci]? = some (Cn, TT, N)) (kf : Nat) (hk : kf < N) (hv : fs[kf]? = some v) (w : Cond.fieldLink own idx (TT kf).1 (TT kf).2.1 (TT kf).2.2.1 ∈ sd_gt) (d : decode cc pc = .ok (.getfield idx, 3)) (kk : sc_Wd X A nL D ws kc ks lv (pc + 3) (v :: stk)) : sc_Wd X A nL D ws kc ks lv pc (.ref a :: stk) := by
  obtain ⟨p, l', e, R, s, m, args, below, meth, c, kc0, ks0, Q⟩ := X
  obtain ⟨rfl, hx, hb, hown, hml, hts, rfl, hK, hk0, hA⟩ := C
  intro H locs ls hl hP hD hS
  exact va_get (D := D) (tys := []) hx hb hts (sd_in hcl) hown hK hP q0 he hcl kf hk (hts _ w) (fun _ h => h) hv d (kk H locs ls hl hP hD hS)
theorem sc_iast (C : sc_Cx X l cc own R0 nL A D ca) (hKi : va_K D vwCl [(ca 0, .int)] (sc_s X)) (q0 : Nat) {a n : Nat} {f : Nat → Int32} {x v : Int32} {ws' : va_W} (he : ws[q0]? = some (a, .inl (ca 0, n, .inl f))) (j : Nat) (hj : x.toInt = (j : Int) ∧ j < n) (hw : ws.set q0 (a, .inl (ca 0, n, .inl (upd f j v))) = ws') (d : decode cc pc = .ok (.iastore, 1)) (kk : sc_Wd X A nL D ws' kc ks lv (pc + 1) stk) : sc_Wd X A nL D ws kc ks lv pc (.int v :: .int x :: .ref a :: stk) := by
  obtain ⟨p, l', e, R, s, m, args, below, meth, c, kc0, ks0, Q⟩ := X
  obtain ⟨rfl, hx, hb, hown, hml, hts, rfl, hK, hk0, hA⟩ := C
  intro H locs ls hl hP hD hS
  have hcl : x.toNatClampNeg = j := sd_clamp hj.1
  refine va_iast (D := D) (tys := [(ca 0, .int)]) hx hb hKi hP hD hS q0 0 he rfl (sd_vpin hj.1 hj.2) d (fun H1 locs1 hP1 hD1 hS1 => ?_)
  rw [hcl, hw] at hP1 hD1
  exact kk H1 locs1 ls hl hP1 hD1 hS1
theorem sc_astq (C : sc_Cx X l cc own R0 nL A D ca) {Cn : String} {cq : ClassId} (hKq : va_K D vwCl [(cq, .object Cn)] (sc_s X)) (q0 qk ci : Nat) {a n v : Nat} {vs : List Value} {TT : u_T} {N : Nat} {f : Nat → Option Nat} {x : Int32} {ws' : va_W} (ha : ws[q0]? = some (a, .inl (cq, n, .inr (.inr (.inr (.inr f)))))) (hv : ws[qk]? = some (v, .inr (ci, vs))) (hcl : vwCl[ci]? = some (Cn, TT, N)) (j : Nat) (hj : x.toInt = (j : Int) ∧ j < n) (hw : ws.set q0 (a, .inl (cq, n, .inr (.inr (.inr (.inr (va_up f j (some v))))))) = ws') (d : decode cc pc = .ok (.aastore, 1)) (kk : sc_Wd X A nL D ws' kc ks lv (pc + 1) stk) : sc_Wd X A nL D ws kc ks lv pc (.ref v :: .int x :: .ref a :: stk) := by
  obtain ⟨p, l', e, R, s, m, args, below, meth, c, kc0, ks0, Q⟩ := X
  obtain ⟨rfl, hx, hb, hown, hml, hts, rfl, hK, hk0, hA⟩ := C
  intro H locs ls hl hP hD hS
  have hcj : x.toNatClampNeg = j := sd_clamp hj.1
  refine va_astq (D := D) (tys := [(cq, .object Cn)]) hx hb hKq hP hD hS q0 0 qk ci ha rfl hv hcl (sd_vpin hj.1 hj.2) d (fun H1 locs1 hP1 hD1 hS1 => ?_)
  rw [hcj, hw] at hP1 hD1
  exact kk H1 locs1 ls hl hP1 hD1 hS1
theorem sc_new (C : sc_Cx X l cc own R0 nL A D ca) {ci N idx : Nat} {Cn : String} {TT : u_T} {fs : List Value} (hcl : vwCl[ci]? = some (Cn, TT, N)) (ty : Nat → FieldType) (hty : ∀ k, k < N → parseFieldDescriptor (TT k).2.2.1 = some (ty k)) (w1 : Cond.classLink own idx Cn ∈ sd_gt) (w2 : Cond.instantiable Cn N ∈ sd_gt) (w3 : Cond.initialized Cn ∈ sd_gt) (hfs : ∀ j, j < N → defaultValue (ty j) = vp_V fs j) (hc : kc + 1 ≤ R0.cells) (hs : ks + N ≤ R0.slots) (d : decode cc pc = .ok (.new idx, 3)) (kk : ∀ q : Nat, sc_Wd X A nL D ((q, .inr (ci, fs)) :: ws) (kc + 1) (ks + N) lv (pc + 3) (.ref q :: stk)) : sc_Wd X A nL D ws kc ks lv pc stk := by
  obtain ⟨p, l', e, R, s, m, args, below, meth, c, kc0, ks0, Q⟩ := X
  obtain ⟨rfl, hx, hb, hown, hml, hts, rfl, hK, hk0, hA⟩ := C
  intro H locs ls hl hP hD hS
  refine va_new (ci := ci) (fs := fs) (C := Cn) (T := TT) (N := N) hx hb hts (sd_in hcl) ty hty hown (hts _ w1) (hts _ w2) (hts _ w3) hK hP hD hS hA hcl hfs hc hs d (fun q H1 hP1 hD1 hS1 => ?_)
  exact kk q H1 locs ls hl (sc_frP hP1) (sc_frD hD1) hS1
theorem sc_callI (C : sc_Cx X l cc own R0 nL A D ca) {y : MethodName} {b : ByteArray} {n np idx : Nat} {R1 : Room} {E : State → Prop} {x : Nat × va_E} {w1 : (Nat → Nat) → va_W} {tys : List (ClassId × FieldType)} {As rest : List Value} (hM : sc_C l y b n R1 D ca E (.ref x.1 :: As) x w1 tys) (hcode : Cond.code y b n none ∈ sd_gt) (hini : Cond.initialized y.cls ∈ sd_gt) (hlk : Cond.methodLink own idx y ∈ sd_gt) (hinst : Cond.instanceMethod y ∈ sd_gt) (hnm : y.name = "<init>") (hd : y.cls ≠ "java/lang/invoke/MethodHandle" ∧ y.cls ≠ "java/lang/invoke/VarHandle" ∧ (parseMethodDescriptor y.desc).map (fun d => d.parameters.length) = some np) (hR : R1.frames + 1 ≤ R0.frames ∧ 8 + (n + 11) + R1.locals ≤ R0.locals) (hE1 : ∀ u U : State, u.vm = U.vm → E u → E U) (hE2 : ∀ U : State, (sc_s X).WarmedH U.vm → E U) (hAs : As.length = np) (hst : stk = As.reverse ++ .ref x.1 :: rest) (hr : (rest.map fun v => v.category).sum ≤ 8) (hc : kc + R1.cells ≤ R0.cells) (hs : ks + R1.slots ≤ R0.slots) (d : decode cc pc = .ok (.invokespecial idx, 3)) (kk : ∀ u : Nat → Nat, va_K D vwCl tys (sc_s X) → sc_Wd X A nL D (w1 u ++ ws) (kc + R1.cells) (ks + R1.slots) lv (pc + 3) rest) : sc_Wd X A nL D (x :: ws) kc ks lv pc stk := by
  obtain ⟨p, l', e, R, s, m, args, below, meth, c, kc0, ks0, Q⟩ := X
  obtain ⟨rfl, hx, hb, hown, hml, hts, rfl, hK, hk0, hA⟩ := C
  intro H locs ls hl hP hD hS
  subst hst
  have hg : GoodIn sd_gt (.code y b n none :: sd_gt) := sd_good (pre := []) (fun w hw => absurd hw List.not_mem_nil) hcode
  have hPc : va_P D vwCl [x] H := hP.sub (ws' := [x]) [0] rfl
  have hFc := va_free (wc := [x]) hD hS hA [0] rfl
  refine va_callv (va_runI (As := As) (rest := rest) ⟨hx, hb, hml, hown, hts⟩ (hM H.size) (cwI np hts hg rfl rfl rfl (hts _ hini) (hts _ hlk) (hts _ hinst) hnm hd hR) ⟨fun a U g mk q => by obtain ⟨q0, q1, qP, qK, qk, qE⟩ := q; exact ⟨q0, q1, qP, va_K.moved (u := U) (U := U.calling g mk a) (Vm.Alike.refl U.vm) qK, sc_k.moved (u := U) (U := U.calling g mk a) (Vm.Alike.refl U.vm) qk, hE1 U (U.calling g mk a) rfl qE⟩, fun U hU hW => ⟨rfl, by rw [hU], by rw [hU]; exact hPc, va_K.moved hW.alike hK, sc_k.moved hW.alike hk0, hE2 U hW⟩⟩ rfl hAs hl.1 rfl (lv_room hr) d ⟨hc, hs⟩) hS (fun q _ h => hFc q h) hFc (fun u t H1 locs1 ht hvm _ hB hz1 hk1 hS1 => ?_)
  obtain ⟨hP1, hK1, hD1⟩ := hB
  rw [ht] at hP1
  obtain ⟨hP2, hD2⟩ := sc_join hP hD hk1 hFc hP1 hD1
  exact kk u (va_K.moved hvm.symm hK1) H1 locs1 ls hl hP2 hD2 hS1
theorem sc_callN (C : sc_Cx X l cc own R0 nL A D ca) {y : MethodName} {b : ByteArray} {n np idx : Nat} {R1 : Room} {E : State → Prop} {x : Nat × va_E} {w1 : (Nat → Nat) → va_W} {tys : List (ClassId × FieldType)} {As rest : List Value} (hM : sc_C l y b n R1 D ca E (.ref x.1 :: As) x w1 tys) (hcode : Cond.code y b n none ∈ sd_gt) (hini : Cond.initialized y.cls ∈ sd_gt) {host : String} (hlk : va_Nw (.methodLinkNest own idx y host) (sc_s X)) (hinst : Cond.instanceMethod y ∈ sd_gt) (hnm : y.name = "<init>") (hd : y.cls ≠ "java/lang/invoke/MethodHandle" ∧ y.cls ≠ "java/lang/invoke/VarHandle" ∧ (parseMethodDescriptor y.desc).map (fun d => d.parameters.length) = some np) (hR : R1.frames + 1 ≤ R0.frames ∧ 8 + (n + 11) + R1.locals ≤ R0.locals) (hE1 : ∀ u U : State, u.vm = U.vm → E u → E U) (hE2 : ∀ U : State, (sc_s X).WarmedH U.vm → E U) (hAs : As.length = np) (hst : stk = As.reverse ++ .ref x.1 :: rest) (hr : (rest.map fun v => v.category).sum ≤ 8) (hc : kc + R1.cells ≤ R0.cells) (hs : ks + R1.slots ≤ R0.slots) (d : decode cc pc = .ok (.invokespecial idx, 3)) (kk : ∀ u : Nat → Nat, va_K D vwCl tys (sc_s X) → sc_Wd X A nL D (w1 u ++ ws) (kc + R1.cells) (ks + R1.slots) lv (pc + 3) rest) : sc_Wd X A nL D (x :: ws) kc ks lv pc stk := by
  obtain ⟨p, l', e, R, s, m, args, below, meth, c, kc0, ks0, Q⟩ := X
  obtain ⟨rfl, hx, hb, hown, hml, hts, rfl, hK, hk0, hA⟩ := C
  intro H locs ls hl hP hD hS
  subst hst
  have hg : GoodIn sd_gt (.code y b n none :: sd_gt) := sd_good (pre := []) (fun w hw => absurd hw List.not_mem_nil) hcode
  have hPc : va_P D vwCl [x] H := hP.sub (ws' := [x]) [0] rfl
  have hFc := va_free (wc := [x]) hD hS hA [0] rfl
  refine va_callv (va_runIN (As := As) (rest := rest) ⟨hx, hb, hml, hown, hts⟩ (hM H.size) ⟨va_cnB np hts hg rfl rfl rfl hlk (hts _ hini) hd hR, hnm, hts _ hinst⟩ ⟨fun a U g mk q => by obtain ⟨q0, q1, qP, qK, qk, qE⟩ := q; exact ⟨q0, q1, qP, va_K.moved (u := U) (U := U.calling g mk a) (Vm.Alike.refl U.vm) qK, sc_k.moved (u := U) (U := U.calling g mk a) (Vm.Alike.refl U.vm) qk, hE1 U (U.calling g mk a) rfl qE⟩, fun U hU hW => ⟨rfl, by rw [hU], by rw [hU]; exact hPc, va_K.moved hW.alike hK, sc_k.moved hW.alike hk0, hE2 U hW⟩⟩ rfl hAs hl.1 rfl (lv_room hr) d ⟨hc, hs⟩) hS (fun q _ h => hFc q h) hFc (fun u t H1 locs1 ht hvm _ hB hz1 hk1 hS1 => ?_)
  obtain ⟨hP1, hK1, hD1⟩ := hB
  rw [ht] at hP1
  obtain ⟨hP2, hD2⟩ := sc_join hP hD hk1 hFc hP1 hD1
  exact kk u (va_K.moved hvm.symm hK1) H1 locs1 ls hl hP2 hD2 hS1
theorem sc_pm {ws' : va_W} (hp : ws.Perm ws') (kk : sc_Wd X A nL D ws' kc ks lv pc stk) : sc_Wd X A nL D ws kc ks lv pc stk := by
  obtain ⟨p, l', e, R, s, m, args, below, meth, c, kc0, ks0, Q⟩ := X
  intro H locs ls hl hP hD hS
  exact kk H locs ls hl (sc_P_perm hp hP) (sc_D_perm hp hD) hS
theorem sc_sub {ws' : va_W} (is : List Nat) (hn : va_nd is = true) (h1 : is.filterMap (fun i => ws[i]?) = ws') (h2 : is.map (fun i => ws[i]?) = ws'.map some) (kk : sc_Wd X A nL D ws' kc ks lv pc stk) : sc_Wd X A nL D ws kc ks lv pc stk := by
  obtain ⟨p, l', e, R, s, m, args, below, meth, c, kc0, ks0, Q⟩ := X
  intro H locs ls hl hP hD hS
  exact kk H locs ls hl (hP.sub is h1) (hD.sub is hn h2) hS
theorem sc_pi {ws' : va_W} {n : Nat} (π : Nat → Nat) (h : ∀ k, k < n → ws[π k]? = ws'[k]?) (hn : ws'.length = n) (hπ : ∀ i, i < n → ∀ j, j < n → π i = π j → i = j) (kk : sc_Wd X A nL D ws' kc ks lv pc stk) : sc_Wd X A nL D ws kc ks lv pc stk := by
  obtain ⟨p, l', e, R, s, m, args, below, meth, c, kc0, ks0, Q⟩ := X
  intro H locs ls hl hP hD hS
  exact kk H locs ls hl ((sc_by (A := A) π h hn hπ).1 hP) ((sc_by (D := D) (cl := vwCl) (H := H) π h hn hπ).2 hD) hS
theorem sc_widen {kc' ks' : Nat} (h1 : kc ≤ kc') (h2 : ks ≤ ks') (kk : sc_Wd X A nL D ws kc' ks' lv pc stk) : sc_Wd X A nL D ws kc ks lv pc stk := by
  obtain ⟨p, l', e, R, s, m, args, below, meth, c, kc0, ks0, Q⟩ := X
  intro H locs ls hl hP hD hS
  exact W.widen (k := kc') (n := ks') h1 h2 (kk H locs ls hl hP hD hS)
theorem sc_lv {lv' : List (Nat × Value)} (kk : sc_Wd X A nL D ws kc ks lv' pc stk) (is : List Nat) (h : is.filterMap (fun i => lv[i]?) = lv') : sc_Wd X A nL D ws kc ks lv pc stk := by
  obtain ⟨p, l', e, R, s, m, args, below, meth, c, kc0, ks0, Q⟩ := X
  intro H locs ls hl hP hD hS
  exact kk H locs ls (lv_sub hl is h) hP hD hS
theorem sc_eqw {ws' : va_W} (h : ws = ws') (kk : sc_Wd X A nL D ws' kc ks lv pc stk) : sc_Wd X A nL D ws kc ks lv pc stk := by
  subst h
  exact kk
theorem sc_qeq (q0 : Nat) {a n : Nat} {cq : ClassId} {f g : Nat → Option Nat} {ws' : va_W} (he : ws[q0]? = some (a, .inl (cq, n, .inr (.inr (.inr (.inr f)))))) (hfg : ∀ j, j < n → f j = g j) (hw : ws.set q0 (a, .inl (cq, n, .inr (.inr (.inr (.inr g))))) = ws') (kk : sc_Wd X A nL D ws' kc ks lv pc stk) : sc_Wd X A nL D ws kc ks lv pc stk := by
  obtain ⟨p, l', e, R, s, m, args, below, meth, c, kc0, ks0, Q⟩ := X
  intro H locs ls hl hP hD hS
  subst hw
  refine kk H locs ls hl (fun k q hk => ?_) (hD.set he) hS
  have hq0 : q0 < ws.length := (List.getElem?_eq_some_iff.mp he).1
  by_cases e : q0 = k
  · subst e
    rw [List.getElem?_set_self hq0] at hk
    cases hk
    have h1 := hP q0 _ he
    show H[a]? = some (vp_cell cq (n, .inr (.inr (.inr (.inr g)))))
    rw [vp_cell_q, ← sc_arrV (f := fun j => va_rf (f j)) (fun j hj => by rw [hfg j hj])]
    exact h1
  · rw [List.getElem?_set_ne e] at hk
    exact hP k q hk
end SCR
def sc_rw (ca : Nat → ClassId) (c : Nat) (ra rb : Nat → Nat) : Nat → va_W
  | 0 => []
  | k + 1 => (ra k, .inr (2, [.ref c, .ref (rb k), .int 0, .int 0, .int 0, .int 0])) :: (rb k, .inl (ca 0, 120, .inl (fun _ => 0))) :: sc_rw ca c ra rb k
theorem sc_rw_cong {ca : Nat → ClassId} {c : Nat} {ra rb ra' rb' : Nat → Nat} : ∀ k, (∀ i, i < k → ra' i = ra i ∧ rb' i = rb i) → sc_rw ca c ra' rb' k = sc_rw ca c ra rb k
  | 0, _ => rfl
  | k + 1, h => by
    rw [sc_rw, sc_rw, (h k (by omega)).1, (h k (by omega)).2, sc_rw_cong k (fun i hi => h i (by omega))]
theorem sc_up_at {α : Type} (f : Nat → α) (k : Nat) (v : α) : va_up f k v k = v := by simp [va_up]
theorem sc_up_ne {α : Type} {f : Nat → α} {k i : Nat} {v : α} (h : i ≠ k) : va_up f k v i = f i := by simp [va_up, h]
theorem sc_rw_up (ca : Nat → ClassId) (c : Nat) (ra rb : Nat → Nat) (k q r : Nat) : sc_rw ca c (va_up ra k q) (va_up rb k r) (k + 1) = (q, .inr (2, [.ref c, .ref r, .int 0, .int 0, .int 0, .int 0])) :: (r, .inl (ca 0, 120, .inl (fun _ => 0))) :: sc_rw ca c ra rb k := by
  rw [sc_rw, sc_up_at, sc_up_at, sc_rw_cong k (fun i hi => ⟨sc_up_ne (by omega), sc_up_ne (by omega)⟩)]
def sc_fw (ca : Nat → ClassId) (ra rb : Nat → Nat) (T : va_W) : Nat → va_W
  | 0 => T
  | k + 1 => (ra k, .inr (1, [.ref (rb k), .int 0, .int 0, .int 0, .int 0])) :: (rb k, .inl (ca 0, 4, .inl (fun _ => 0))) :: sc_fw ca ra rb T k
theorem sc_fw_cong {ca : Nat → ClassId} {ra rb ra' rb' : Nat → Nat} {T : va_W} : ∀ k, (∀ i, i < k → ra' i = ra i ∧ rb' i = rb i) → sc_fw ca ra' rb' T k = sc_fw ca ra rb T k
  | 0, _ => rfl
  | k + 1, h => by
    rw [sc_fw, sc_fw, (h k (by omega)).1, (h k (by omega)).2, sc_fw_cong k (fun i hi => h i (by omega))]
theorem sc_fw_up (ca : Nat → ClassId) (ra rb : Nat → Nat) (T : va_W) (k q r : Nat) : sc_fw ca (va_up ra k q) (va_up rb k r) T (k + 1) = (q, .inr (1, [.ref r, .int 0, .int 0, .int 0, .int 0])) :: (r, .inl (ca 0, 4, .inl (fun _ => 0))) :: sc_fw ca ra rb T k := by
  rw [sc_fw, sc_up_at, sc_up_at, sc_fw_cong k (fun i hi => ⟨sc_up_ne (by omega), sc_up_ne (by omega)⟩)]
def sc_qf (ra : Nat → Nat) (k : Nat) : Nat → Option Nat := fun p => if p < k then some (ra p) else none
theorem sc_qf_0 (ra : Nat → Nat) : sc_qf ra 0 = fun _ => none := by funext p; simp [sc_qf]
theorem sc_qf_up (ra : Nat → Nat) (k q : Nat) : va_up (sc_qf ra k) k (some q) = sc_qf (va_up ra k q) (k + 1) := by
  funext p
  by_cases h : p = k
  · subst h; simp [va_up, sc_qf]
  · simp only [va_up, sc_qf, if_neg h]
    by_cases h2 : p < k
    · rw [if_pos h2, if_pos (by omega)]
    · rw [if_neg h2, if_neg (by omega)]
def sc_id : Nat → Int32 := fun p => Int32.ofInt (p : Int)
def sc_pf (g : Nat → Int32) (k : Nat) : Nat → Int32 := fun p => if p < k then g p else 0
theorem sc_pf_0 (g : Nat → Int32) : sc_pf g 0 = fun _ => 0 := by funext p; simp [sc_pf]
theorem sc_pf_up (g : Nat → Int32) (k : Nat) {x : Int32} (h : x = g k) : upd (sc_pf g k) k x = sc_pf g (k + 1) := by
  subst h
  funext p
  by_cases h : p = k
  · subst h; simp [upd, sc_pf]
  · simp only [upd, sc_pf, if_neg h]
    by_cases h2 : p < k
    · rw [if_pos h2, if_pos (by omega)]
    · rw [if_neg h2, if_neg (by omega)]

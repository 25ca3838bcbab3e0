def lw_Inv (σ : sd_Mem) : Prop := ∃ β : sp_B, sd_CS σ β ∧ sd_MR σ β ∧ sd_RK β
theorem lw_Inv0 : lw_Inv sd_z := ⟨b0, z_CS, z_MR, b0_RK⟩
def lw_Sx (X : sd_X) (ad : Nat → Nat) (b L : Nat) (xs : Nat → Int32) : Prop := match X with
  | (_, _, _, _, s, _, _, _, _, _, _, _, _) => va_X b L xs s s.heap ∧ b < s.heap.size ∧ ¬ sd_A ad b
section SDL
variable {X : sd_X} {l : Launch} {cc : ByteArray} {own : String} {k nL : Nat} {D : va_G} {ad : Nat → Nat} {ca : Nat → ClassId} {T : Nat → Nat} {σ : sd_Mem} {lv : List (Nat × Value)} {pc : Nat} {stk : List Value}
theorem sd_sld (C : sd_Cx X l cc own k nL D ad ca T) {b L : Nat} {xs : Nat → Int32} (hLx : lw_Sx X ad b L xs) {x : Int32} (j : Nat) (hj : x.toInt = (j : Int) ∧ j < L) (d : decode cc pc = .ok (.iaload, 1)) (kk : sd_Wd X nL D ad ca σ lv (pc + 1) (.int (xs j) :: stk)) : sd_Wd X nL D ad ca σ lv pc (.int x :: .ref b :: stk) := by
  obtain ⟨p, l', e, R, s, m, args, below, meth, c, kc, ks, Q⟩ := X
  obtain ⟨rfl, hx, hb, hown, hml, hts, hR, hK, hI, hT⟩ := C
  obtain ⟨hX, hbl, hbA⟩ := hLx
  intro H locs ls hl hP hS
  refine va_sld hx hb hX hbl hbA hS (sd_vpin hj.1 hj.2) d ?_
  rw [sd_clamp hj.1]
  exact kk H locs ls hl hP hS
theorem sd_slen (C : sd_Cx X l cc own k nL D ad ca T) {b L : Nat} {xs : Nat → Int32} (hLx : lw_Sx X ad b L xs) (hL : L ≤ 2560) (d : decode cc pc = .ok (.arraylength, 1)) (kk : ∀ x : Int32, x.toInt = (L : Int) → sd_Wd X nL D ad ca σ lv (pc + 1) (.int x :: stk)) : sd_Wd X nL D ad ca σ lv pc (.ref b :: stk) := by
  obtain ⟨p, l', e, R, s, m, args, below, meth, c, kc, ks, Q⟩ := X
  obtain ⟨rfl, hx, hb, hown, hml, hts, hR, hK, hI, hT⟩ := C
  obtain ⟨hX, hbl, hbA⟩ := hLx
  intro H locs ls hl hP hS
  refine va_slen hx hb hX hbl hbA hS d (kk _ ?_ H locs ls hl hP hS)
  exact Int32.toInt_ofNat_of_lt (by omega)
end SDL
set_option maxRecDepth 20000 in
set_option maxHeartbeats 8000000 in
theorem law_loop {X : sd_X} {l : Launch} {D : va_G} {ad : Nat → Nat} {ca : Nat → ClassId} {T : Nat → Nat} {b L : Nat} {xs : Nat → Int32} (C : sd_Cx X l cL_law RL 8 4 D ad ca T) (hLx : lw_Sx X ad b L xs) (hL : L ≤ 2560) (hend : ∀ (σ : sd_Mem) (lv : List (Nat × Value)) (v : Int32), v.toInt = 1 → sd_Wd X 4 D ad ca σ lv 763 [.int v]) (y0 : Int32) (hy0 : y0.toInt = ((0 : Nat) : Int)) : sd_Wd X 4 D ad ca sd_z [(3, .int y0), (2, .ref (ad 76)), (1, .ref (ad 0)), (0, .ref b)] 18 [] := by
  have key18 : ∀ (fu18 : Nat) (y3 : Int32) (i : Nat) (σ : sd_Mem), (y3.toInt = (i : Int)) → (i ≤ L) → (lw_Inv σ) → (L - i < fu18) → sd_Wd X 4 D ad ca σ [(3, .int y3), (2, .ref (ad 76)), (1, .ref (ad 0)), (0, .ref b)] 18 [] := by
    intro fu18
    induction fu18 with
    | zero => intro y3 i σ h3 hi hv hm18; exact absurd hm18 (Nat.not_lt_zero _)
    | succ fu18 ih18 =>
      intro y3 i σ h3 hi hv hm18
      obtain ⟨β, hS, hM, hK⟩ := hv
      have hG := hS.2.1
      have key756 : ∀ (τ : sd_Mem), (i + 5 ≤ L) → (lw_Inv τ) → sd_Wd X 4 D ad ca τ [(3, .int y3), (2, .ref (ad 76)), (1, .ref (ad 0)), (0, .ref b)] 756 [] := by
          intro τ hi2 hv2
          refine sd_iinc C dL_law_756 0 rfl (by decide) (by decide) (by omega) (fun zz => [(3, .int zz), (2, .ref (ad 76)), (1, .ref (ad 0)), (0, .ref b)]) (fun _ => rfl) (fun u756 eu756 => ?_)
          refine sd_goto C 18 dL_law_759 (by decide) ?_
          exact ih18 u756 (i + 5) τ (by omega) (by omega) hv2 (by omega)
      refine sd_iload_n C dL_law_18 0 rfl rfl ?_
      refine sd_aload_n C dL_law_19 3 rfl rfl ?_
      refine sd_slen C hLx (by omega) dL_law_20 (fun n20 en20 => ?_)
      refine sd_iconst C dL_law_21 (by decide) (fun k21 ek21 => ?_)
      refine sd_isub C dL_law_22 (by omega) (fun z22 ez22 => ?_)
      refine sd_icmp_gt C 762 dL_law_23 (by decide) (fun c23 => ?_) (fun c23 => ?_)
      · refine sd_iconst C dL_law_762 (by decide) (fun k762 ek762 => ?_)
        exact hend _ _ _ ek762
      · refine sd_aload_n C dL_law_26 3 rfl rfl ?_
        refine sd_iload_n C dL_law_27 0 rfl rfl ?_
        refine sd_sld C hLx (i) ⟨by omega, by omega⟩ dL_law_28 ?_
        refine sd_bipush C dL_law_29 (by decide) (fun k29 ek29 => ?_)
        refine sd_iand C dL_law_31 ?_
        have hw32 : ((xs (i)) &&& k29).toInt = 0 ∨ ((xs (i)) &&& k29).toInt = 1 ∨ ((xs (i)) &&& k29).toInt = 2 ∨ ((xs (i)) &&& k29).toInt = 3 ∨ ((xs (i)) &&& k29).toInt = 4 ∨ ((xs (i)) &&& k29).toInt = 5 ∨ ((xs (i)) &&& k29).toInt = 6 ∨ ((xs (i)) &&& k29).toInt = 7 ∨ ((xs (i)) &&& k29).toInt = 8 ∨ ((xs (i)) &&& k29).toInt = 9 ∨ ((xs (i)) &&& k29).toInt = 10 ∨ ((xs (i)) &&& k29).toInt = 11 ∨ ((xs (i)) &&& k29).toInt = 12 ∨ ((xs (i)) &&& k29).toInt = 13 ∨ ((xs (i)) &&& k29).toInt = 14 ∨ ((xs (i)) &&& k29).toInt = 15 ∨ ((xs (i)) &&& k29).toInt = 16 ∨ ((xs (i)) &&& k29).toInt = 17 ∨ (((xs (i)) &&& k29).toInt ≠ 0 ∧ ((xs (i)) &&& k29).toInt ≠ 1 ∧ ((xs (i)) &&& k29).toInt ≠ 2 ∧ ((xs (i)) &&& k29).toInt ≠ 3 ∧ ((xs (i)) &&& k29).toInt ≠ 4 ∧ ((xs (i)) &&& k29).toInt ≠ 5 ∧ ((xs (i)) &&& k29).toInt ≠ 6 ∧ ((xs (i)) &&& k29).toInt ≠ 7 ∧ ((xs (i)) &&& k29).toInt ≠ 8 ∧ ((xs (i)) &&& k29).toInt ≠ 9 ∧ ((xs (i)) &&& k29).toInt ≠ 10 ∧ ((xs (i)) &&& k29).toInt ≠ 11 ∧ ((xs (i)) &&& k29).toInt ≠ 12 ∧ ((xs (i)) &&& k29).toInt ≠ 13 ∧ ((xs (i)) &&& k29).toInt ≠ 14 ∧ ((xs (i)) &&& k29).toInt ≠ 15 ∧ ((xs (i)) &&& k29).toInt ≠ 16 ∧ ((xs (i)) &&& k29).toInt ≠ 17) := by omega
        rcases hw32 with w32 | w32 | w32 | w32 | w32 | w32 | w32 | w32 | w32 | w32 | w32 | w32 | w32 | w32 | w32 | w32 | w32 | w32 | w32
        · refine sd_tableIn C 120 (0) dL_law_32 w32 (by decide) rfl (by decide) ?_
          refine sd_aload_n C dL_law_120 2 rfl rfl ?_
          refine sd_aload_n C dL_law_121 3 rfl rfl ?_
          refine sd_iload_n C dL_law_122 0 rfl rfl ?_
          refine sd_iconst C dL_law_123 (by decide) (fun k123 ek123 => ?_)
          refine sd_iadd C dL_law_124 (by omega) (fun z124 ez124 => ?_)
          refine sd_sld C hLx ((i + 1)) ⟨by omega, by omega⟩ dL_law_125 ?_
          refine sd_aload_n C dL_law_126 3 rfl rfl ?_
          refine sd_iload_n C dL_law_127 0 rfl rfl ?_
          refine sd_iconst C dL_law_128 (by decide) (fun k128 ek128 => ?_)
          refine sd_iadd C dL_law_129 (by omega) (fun z129 ez129 => ?_)
          refine sd_sld C hLx ((i + 2)) ⟨by omega, by omega⟩ dL_law_130 ?_
          refine sd_aload_n C dL_law_131 3 rfl rfl ?_
          refine sd_iload_n C dL_law_132 0 rfl rfl ?_
          refine sd_iconst C dL_law_133 (by decide) (fun k133 ek133 => ?_)
          refine sd_iadd C dL_law_134 (by omega) (fun z134 ez134 => ?_)
          refine sd_sld C hLx ((i + 3)) ⟨by omega, by omega⟩ dL_law_135 ?_
          refine sd_callVi C (c_X4_click l D ad ca T σ β hS (xs ((i + 1))) (xs ((i + 2))) (xs ((i + 3)))) mv_X4_click wm_L_13 (by decide) rfl rfl (by decide) rfl rfl (Nat.le_of_ble_eq_true rfl) dL_law_136 (fun r136 s136 h136 => ?_)
          try dsimp only at h136
          obtain ⟨e1, hC1, hh1⟩ := h136
          have hM1 := sd_MR_hi hh1 hM
          refine sd_aload_n C dL_law_139 1 rfl rfl ?_
          refine sd_aload_n C dL_law_140 3 rfl rfl ?_
          refine sd_iload_n C dL_law_141 0 rfl rfl ?_
          refine sd_iconst C dL_law_142 (by decide) (fun k142 ek142 => ?_)
          refine sd_iadd C dL_law_143 (by omega) (fun z143 ez143 => ?_)
          refine sd_sld C hLx ((i + 1)) ⟨by omega, by omega⟩ dL_law_144 ?_
          refine sd_aload_n C dL_law_145 3 rfl rfl ?_
          refine sd_iload_n C dL_law_146 0 rfl rfl ?_
          refine sd_iconst C dL_law_147 (by decide) (fun k147 ek147 => ?_)
          refine sd_iadd C dL_law_148 (by omega) (fun z148 ez148 => ?_)
          refine sd_sld C hLx ((i + 2)) ⟨by omega, by omega⟩ dL_law_149 ?_
          refine sd_aload_n C dL_law_150 3 rfl rfl ?_
          refine sd_iload_n C dL_law_151 0 rfl rfl ?_
          refine sd_iconst C dL_law_152 (by decide) (fun k152 ek152 => ?_)
          refine sd_iadd C dL_law_153 (by omega) (fun z153 ez153 => ?_)
          refine sd_sld C hLx ((i + 3)) ⟨by omega, by omega⟩ dL_law_154 ?_
          refine sd_callVi C (c_X5_click l D ad ca T s136 β hM1 hG hK (xs ((i + 1))) (xs ((i + 2))) (xs ((i + 3)))) mv_X5_click wm_L_17 (by decide) rfl rfl (by decide) rfl rfl (Nat.le_of_ble_eq_true rfl) dL_law_155 (fun r155 s155 h155 => ?_)
          try dsimp only at h155
          obtain ⟨e2, hM2, hl2⟩ := h155
          have hC2 := sd_CS_lo hl2 hC1
          have hK2 := up_click_RK hK (xs ((i + 1))).toInt (xs ((i + 2))).toInt (xs ((i + 3))).toInt
          refine sd_icmp_eq C 756 dL_law_158 (by decide) (fun c158 => ?_) (fun c158 => ?_)
          · exact key756 s155 (by omega) ⟨_, hC2, hM2, hK2⟩
          · exact absurd c158 (by omega)
        · refine sd_tableIn C 163 (1) dL_law_32 w32 (by decide) rfl (by decide) ?_
          refine sd_aload_n C dL_law_163 2 rfl rfl ?_
          refine sd_aload_n C dL_law_164 3 rfl rfl ?_
          refine sd_iload_n C dL_law_165 0 rfl rfl ?_
          refine sd_iconst C dL_law_166 (by decide) (fun k166 ek166 => ?_)
          refine sd_iadd C dL_law_167 (by omega) (fun z167 ez167 => ?_)
          refine sd_sld C hLx ((i + 1)) ⟨by omega, by omega⟩ dL_law_168 ?_
          refine sd_aload_n C dL_law_169 3 rfl rfl ?_
          refine sd_iload_n C dL_law_170 0 rfl rfl ?_
          refine sd_iconst C dL_law_171 (by decide) (fun k171 ek171 => ?_)
          refine sd_iadd C dL_law_172 (by omega) (fun z172 ez172 => ?_)
          refine sd_sld C hLx ((i + 2)) ⟨by omega, by omega⟩ dL_law_173 ?_
          refine sd_if_eq C 181 dL_law_174 (by decide) (fun c174 => ?_) (fun c174 => ?_)
          · refine sd_iconst C dL_law_181 (by decide) (fun k181 ek181 => ?_)
            refine sd_callVi C (c_X4_strike l D ad ca T σ β hS (xs ((i + 1))) k181 (by omega)) mv_X4_strike wm_L_18 (by decide) rfl rfl (by decide) rfl rfl (Nat.le_of_ble_eq_true rfl) dL_law_182 (fun r182 s182 h182 => ?_)
            try dsimp only at h182
            obtain ⟨e1, hC1, hh1⟩ := h182
            have hM1 := sd_MR_hi hh1 hM
            refine sd_aload_n C dL_law_185 1 rfl rfl ?_
            refine sd_aload_n C dL_law_186 3 rfl rfl ?_
            refine sd_iload_n C dL_law_187 0 rfl rfl ?_
            refine sd_iconst C dL_law_188 (by decide) (fun k188 ek188 => ?_)
            refine sd_iadd C dL_law_189 (by omega) (fun z189 ez189 => ?_)
            refine sd_sld C hLx ((i + 1)) ⟨by omega, by omega⟩ dL_law_190 ?_
            refine sd_aload_n C dL_law_191 3 rfl rfl ?_
            refine sd_iload_n C dL_law_192 0 rfl rfl ?_
            refine sd_iconst C dL_law_193 (by decide) (fun k193 ek193 => ?_)
            refine sd_iadd C dL_law_194 (by omega) (fun z194 ez194 => ?_)
            refine sd_sld C hLx ((i + 2)) ⟨by omega, by omega⟩ dL_law_195 ?_
            refine sd_if_eq C 203 dL_law_196 (by decide) (fun c196 => ?_) (fun c196 => ?_)
            · refine sd_iconst C dL_law_203 (by decide) (fun k203 ek203 => ?_)
              refine sd_callVi C (c_X5_strike l D ad ca T s182 β hM1 hG (xs ((i + 1))) k203 (by omega)) mv_X5_strike wm_L_22 (by decide) rfl rfl (by decide) rfl rfl (Nat.le_of_ble_eq_true rfl) dL_law_204 (fun r204 s204 h204 => ?_)
              try dsimp only at h204
              obtain ⟨e2, hM2, hl2⟩ := h204
              have hC2 := sd_CS_lo hl2 hC1
              rw [show k203.toInt = k181.toInt by omega] at hM2
              have hK2 := up_strike_RK hK (xs ((i + 1))).toInt k181.toInt
              refine sd_icmp_eq C 756 dL_law_207 (by decide) (fun c207 => ?_) (fun c207 => ?_)
              · exact key756 s204 (by omega) ⟨_, hC2, hM2, hK2⟩
              · exact absurd c207 (by omega)
            · exact absurd c196 (by omega)
          · refine sd_iconst C dL_law_177 (by decide) (fun k177 ek177 => ?_)
            refine sd_goto C 182 dL_law_178 (by decide) ?_
            refine sd_callVi C (c_X4_strike l D ad ca T σ β hS (xs ((i + 1))) k177 (by omega)) mv_X4_strike wm_L_18 (by decide) rfl rfl (by decide) rfl rfl (Nat.le_of_ble_eq_true rfl) dL_law_182 (fun r182 s182 h182 => ?_)
            try dsimp only at h182
            obtain ⟨e1, hC1, hh1⟩ := h182
            have hM1 := sd_MR_hi hh1 hM
            refine sd_aload_n C dL_law_185 1 rfl rfl ?_
            refine sd_aload_n C dL_law_186 3 rfl rfl ?_
            refine sd_iload_n C dL_law_187 0 rfl rfl ?_
            refine sd_iconst C dL_law_188 (by decide) (fun k188 ek188 => ?_)
            refine sd_iadd C dL_law_189 (by omega) (fun z189 ez189 => ?_)
            refine sd_sld C hLx ((i + 1)) ⟨by omega, by omega⟩ dL_law_190 ?_
            refine sd_aload_n C dL_law_191 3 rfl rfl ?_
            refine sd_iload_n C dL_law_192 0 rfl rfl ?_
            refine sd_iconst C dL_law_193 (by decide) (fun k193 ek193 => ?_)
            refine sd_iadd C dL_law_194 (by omega) (fun z194 ez194 => ?_)
            refine sd_sld C hLx ((i + 2)) ⟨by omega, by omega⟩ dL_law_195 ?_
            refine sd_if_eq C 203 dL_law_196 (by decide) (fun c196 => ?_) (fun c196 => ?_)
            · exact absurd c196 (by omega)
            · refine sd_iconst C dL_law_199 (by decide) (fun k199 ek199 => ?_)
              refine sd_goto C 204 dL_law_200 (by decide) ?_
              refine sd_callVi C (c_X5_strike l D ad ca T s182 β hM1 hG (xs ((i + 1))) k199 (by omega)) mv_X5_strike wm_L_22 (by decide) rfl rfl (by decide) rfl rfl (Nat.le_of_ble_eq_true rfl) dL_law_204 (fun r204 s204 h204 => ?_)
              try dsimp only at h204
              obtain ⟨e2, hM2, hl2⟩ := h204
              have hC2 := sd_CS_lo hl2 hC1
              rw [show k199.toInt = k177.toInt by omega] at hM2
              have hK2 := up_strike_RK hK (xs ((i + 1))).toInt k177.toInt
              refine sd_icmp_eq C 756 dL_law_207 (by decide) (fun c207 => ?_) (fun c207 => ?_)
              · exact key756 s204 (by omega) ⟨_, hC2, hM2, hK2⟩
              · exact absurd c207 (by omega)
        · refine sd_tableIn C 212 (2) dL_law_32 w32 (by decide) rfl (by decide) ?_
          refine sd_aload_n C dL_law_212 2 rfl rfl ?_
          refine sd_aload_n C dL_law_213 3 rfl rfl ?_
          refine sd_iload_n C dL_law_214 0 rfl rfl ?_
          refine sd_iconst C dL_law_215 (by decide) (fun k215 ek215 => ?_)
          refine sd_iadd C dL_law_216 (by omega) (fun z216 ez216 => ?_)
          refine sd_sld C hLx ((i + 1)) ⟨by omega, by omega⟩ dL_law_217 ?_
          refine sd_aload_n C dL_law_218 3 rfl rfl ?_
          refine sd_iload_n C dL_law_219 0 rfl rfl ?_
          refine sd_iconst C dL_law_220 (by decide) (fun k220 ek220 => ?_)
          refine sd_iadd C dL_law_221 (by omega) (fun z221 ez221 => ?_)
          refine sd_sld C hLx ((i + 2)) ⟨by omega, by omega⟩ dL_law_222 ?_
          refine sd_callVi C (c_X4_join l D ad ca T σ β hS (xs ((i + 1))) (xs ((i + 2)))) mv_X4_join wm_L_23 (by decide) rfl rfl (by decide) rfl rfl (Nat.le_of_ble_eq_true rfl) dL_law_223 (fun r223 s223 h223 => ?_)
          try dsimp only at h223
          obtain ⟨e1, hC1, hh1⟩ := h223
          have hM1 := sd_MR_hi hh1 hM
          refine sd_aload_n C dL_law_226 1 rfl rfl ?_
          refine sd_aload_n C dL_law_227 3 rfl rfl ?_
          refine sd_iload_n C dL_law_228 0 rfl rfl ?_
          refine sd_iconst C dL_law_229 (by decide) (fun k229 ek229 => ?_)
          refine sd_iadd C dL_law_230 (by omega) (fun z230 ez230 => ?_)
          refine sd_sld C hLx ((i + 1)) ⟨by omega, by omega⟩ dL_law_231 ?_
          refine sd_aload_n C dL_law_232 3 rfl rfl ?_
          refine sd_iload_n C dL_law_233 0 rfl rfl ?_
          refine sd_iconst C dL_law_234 (by decide) (fun k234 ek234 => ?_)
          refine sd_iadd C dL_law_235 (by omega) (fun z235 ez235 => ?_)
          refine sd_sld C hLx ((i + 2)) ⟨by omega, by omega⟩ dL_law_236 ?_
          refine sd_callVi C (c_X5_join l D ad ca T s223 β hM1 hG (xs ((i + 1))) (xs ((i + 2)))) mv_X5_join wm_L_27 (by decide) rfl rfl (by decide) rfl rfl (Nat.le_of_ble_eq_true rfl) dL_law_237 (fun r237 s237 h237 => ?_)
          try dsimp only at h237
          obtain ⟨e2, hM2, hl2⟩ := h237
          have hC2 := sd_CS_lo hl2 hC1
          have hK2 := up_join_RK hK (xs ((i + 1))).toInt (xs ((i + 2))).toInt
          refine sd_icmp_eq C 756 dL_law_240 (by decide) (fun c240 => ?_) (fun c240 => ?_)
          · exact key756 s237 (by omega) ⟨_, hC2, hM2, hK2⟩
          · exact absurd c240 (by omega)
        · refine sd_tableIn C 245 (3) dL_law_32 w32 (by decide) rfl (by decide) ?_
          refine sd_aload_n C dL_law_245 2 rfl rfl ?_
          refine sd_aload_n C dL_law_246 3 rfl rfl ?_
          refine sd_iload_n C dL_law_247 0 rfl rfl ?_
          refine sd_iconst C dL_law_248 (by decide) (fun k248 ek248 => ?_)
          refine sd_iadd C dL_law_249 (by omega) (fun z249 ez249 => ?_)
          refine sd_sld C hLx ((i + 1)) ⟨by omega, by omega⟩ dL_law_250 ?_
          refine sd_aload_n C dL_law_251 3 rfl rfl ?_
          refine sd_iload_n C dL_law_252 0 rfl rfl ?_
          refine sd_iconst C dL_law_253 (by decide) (fun k253 ek253 => ?_)
          refine sd_iadd C dL_law_254 (by omega) (fun z254 ez254 => ?_)
          refine sd_sld C hLx ((i + 2)) ⟨by omega, by omega⟩ dL_law_255 ?_
          refine sd_callVi C (c_X4_rule l D ad ca T σ β hS (xs ((i + 1))) (xs ((i + 2)))) mv_X4_rule wm_L_28 (by decide) rfl rfl (by decide) rfl rfl (Nat.le_of_ble_eq_true rfl) dL_law_256 (fun r256 s256 h256 => ?_)
          try dsimp only at h256
          obtain ⟨e1, hC1, hh1⟩ := h256
          have hM1 := sd_MR_hi hh1 hM
          refine sd_aload_n C dL_law_259 1 rfl rfl ?_
          refine sd_aload_n C dL_law_260 3 rfl rfl ?_
          refine sd_iload_n C dL_law_261 0 rfl rfl ?_
          refine sd_iconst C dL_law_262 (by decide) (fun k262 ek262 => ?_)
          refine sd_iadd C dL_law_263 (by omega) (fun z263 ez263 => ?_)
          refine sd_sld C hLx ((i + 1)) ⟨by omega, by omega⟩ dL_law_264 ?_
          refine sd_aload_n C dL_law_265 3 rfl rfl ?_
          refine sd_iload_n C dL_law_266 0 rfl rfl ?_
          refine sd_iconst C dL_law_267 (by decide) (fun k267 ek267 => ?_)
          refine sd_iadd C dL_law_268 (by omega) (fun z268 ez268 => ?_)
          refine sd_sld C hLx ((i + 2)) ⟨by omega, by omega⟩ dL_law_269 ?_
          refine sd_callVi C (c_X5_rule l D ad ca T s256 β hM1 hG (xs ((i + 1))) (xs ((i + 2)))) mv_X5_rule wm_L_31 (by decide) rfl rfl (by decide) rfl rfl (Nat.le_of_ble_eq_true rfl) dL_law_270 (fun r270 s270 h270 => ?_)
          try dsimp only at h270
          obtain ⟨e2, hM2, hl2⟩ := h270
          have hC2 := sd_CS_lo hl2 hC1
          have hK2 := up_rule_RK hK (xs ((i + 1))).toInt (xs ((i + 2))).toInt
          refine sd_icmp_eq C 756 dL_law_273 (by decide) (fun c273 => ?_) (fun c273 => ?_)
          · exact key756 s270 (by omega) ⟨_, hC2, hM2, hK2⟩
          · exact absurd c273 (by omega)
        · refine sd_tableIn C 278 (4) dL_law_32 w32 (by decide) rfl (by decide) ?_
          refine sd_aload_n C dL_law_278 2 rfl rfl ?_
          refine sd_aload_n C dL_law_279 3 rfl rfl ?_
          refine sd_iload_n C dL_law_280 0 rfl rfl ?_
          refine sd_iconst C dL_law_281 (by decide) (fun k281 ek281 => ?_)
          refine sd_iadd C dL_law_282 (by omega) (fun z282 ez282 => ?_)
          refine sd_sld C hLx ((i + 1)) ⟨by omega, by omega⟩ dL_law_283 ?_
          refine sd_aload_n C dL_law_284 3 rfl rfl ?_
          refine sd_iload_n C dL_law_285 0 rfl rfl ?_
          refine sd_iconst C dL_law_286 (by decide) (fun k286 ek286 => ?_)
          refine sd_iadd C dL_law_287 (by omega) (fun z287 ez287 => ?_)
          refine sd_sld C hLx ((i + 2)) ⟨by omega, by omega⟩ dL_law_288 ?_
          refine sd_pVi C (c_X4_told l D ad ca T σ β hS (xs ((i + 1))) (xs ((i + 2)))) mv_X4_told wm_L_32 (by decide) rfl rfl (by decide) rfl rfl (Nat.le_of_ble_eq_true rfl) dL_law_289 (fun r289 h289 => ?_)
          try dsimp only at h289
          have e1 := h289
          have hC1 := hS
          have hM1 := hM
          refine sd_aload_n C dL_law_292 1 rfl rfl ?_
          refine sd_aload_n C dL_law_293 3 rfl rfl ?_
          refine sd_iload_n C dL_law_294 0 rfl rfl ?_
          refine sd_iconst C dL_law_295 (by decide) (fun k295 ek295 => ?_)
          refine sd_iadd C dL_law_296 (by omega) (fun z296 ez296 => ?_)
          refine sd_sld C hLx ((i + 1)) ⟨by omega, by omega⟩ dL_law_297 ?_
          refine sd_aload_n C dL_law_298 3 rfl rfl ?_
          refine sd_iload_n C dL_law_299 0 rfl rfl ?_
          refine sd_iconst C dL_law_300 (by decide) (fun k300 ek300 => ?_)
          refine sd_iadd C dL_law_301 (by omega) (fun z301 ez301 => ?_)
          refine sd_sld C hLx ((i + 2)) ⟨by omega, by omega⟩ dL_law_302 ?_
          refine sd_callVi C (c_X5_told l D ad ca T σ β hM1 hG (xs ((i + 1))) (xs ((i + 2)))) mv_X5_told wm_L_35 (by decide) rfl rfl (by decide) rfl rfl (Nat.le_of_ble_eq_true rfl) dL_law_303 (fun r303 s303 h303 => ?_)
          try dsimp only at h303
          obtain ⟨e2, hM2, hl2⟩ := h303
          have hC2 := sd_CS_lo hl2 hC1
          have hK2 := hK
          refine sd_icmp_eq C 756 dL_law_306 (by decide) (fun c306 => ?_) (fun c306 => ?_)
          · exact key756 s303 (by omega) ⟨_, hC2, hM2, hK2⟩
          · exact absurd c306 (by omega)
        · refine sd_tableIn C 311 (5) dL_law_32 w32 (by decide) rfl (by decide) ?_
          refine sd_aload_n C dL_law_311 2 rfl rfl ?_
          refine sd_aload_n C dL_law_312 3 rfl rfl ?_
          refine sd_iload_n C dL_law_313 0 rfl rfl ?_
          refine sd_iconst C dL_law_314 (by decide) (fun k314 ek314 => ?_)
          refine sd_iadd C dL_law_315 (by omega) (fun z315 ez315 => ?_)
          refine sd_sld C hLx ((i + 1)) ⟨by omega, by omega⟩ dL_law_316 ?_
          refine sd_aload_n C dL_law_317 3 rfl rfl ?_
          refine sd_iload_n C dL_law_318 0 rfl rfl ?_
          refine sd_iconst C dL_law_319 (by decide) (fun k319 ek319 => ?_)
          refine sd_iadd C dL_law_320 (by omega) (fun z320 ez320 => ?_)
          refine sd_sld C hLx ((i + 2)) ⟨by omega, by omega⟩ dL_law_321 ?_
          refine sd_pVi C (c_X4_person l D ad ca T σ β hS (xs ((i + 1))) (xs ((i + 2)))) mv_X4_person wm_L_36 (by decide) rfl rfl (by decide) rfl rfl (Nat.le_of_ble_eq_true rfl) dL_law_322 (fun r322 h322 => ?_)
          try dsimp only at h322
          have e1 := h322
          have hC1 := hS
          have hM1 := hM
          refine sd_aload_n C dL_law_325 1 rfl rfl ?_
          refine sd_aload_n C dL_law_326 3 rfl rfl ?_
          refine sd_iload_n C dL_law_327 0 rfl rfl ?_
          refine sd_iconst C dL_law_328 (by decide) (fun k328 ek328 => ?_)
          refine sd_iadd C dL_law_329 (by omega) (fun z329 ez329 => ?_)
          refine sd_sld C hLx ((i + 1)) ⟨by omega, by omega⟩ dL_law_330 ?_
          refine sd_aload_n C dL_law_331 3 rfl rfl ?_
          refine sd_iload_n C dL_law_332 0 rfl rfl ?_
          refine sd_iconst C dL_law_333 (by decide) (fun k333 ek333 => ?_)
          refine sd_iadd C dL_law_334 (by omega) (fun z334 ez334 => ?_)
          refine sd_sld C hLx ((i + 2)) ⟨by omega, by omega⟩ dL_law_335 ?_
          refine sd_callVi C (c_X5_person l D ad ca T σ β hM1 hG (xs ((i + 1))) (xs ((i + 2)))) mv_X5_person wm_L_39 (by decide) rfl rfl (by decide) rfl rfl (Nat.le_of_ble_eq_true rfl) dL_law_336 (fun r336 s336 h336 => ?_)
          try dsimp only at h336
          obtain ⟨e2, hM2, hl2⟩ := h336
          have hC2 := sd_CS_lo hl2 hC1
          have hK2 := hK
          refine sd_icmp_eq C 756 dL_law_339 (by decide) (fun c339 => ?_) (fun c339 => ?_)
          · exact key756 s336 (by omega) ⟨_, hC2, hM2, hK2⟩
          · exact absurd c339 (by omega)
        · refine sd_tableIn C 344 (6) dL_law_32 w32 (by decide) rfl (by decide) ?_
          refine sd_aload_n C dL_law_344 2 rfl rfl ?_
          refine sd_aload_n C dL_law_345 3 rfl rfl ?_
          refine sd_iload_n C dL_law_346 0 rfl rfl ?_
          refine sd_iconst C dL_law_347 (by decide) (fun k347 ek347 => ?_)
          refine sd_iadd C dL_law_348 (by omega) (fun z348 ez348 => ?_)
          refine sd_sld C hLx ((i + 1)) ⟨by omega, by omega⟩ dL_law_349 ?_
          refine sd_aload_n C dL_law_350 3 rfl rfl ?_
          refine sd_iload_n C dL_law_351 0 rfl rfl ?_
          refine sd_iconst C dL_law_352 (by decide) (fun k352 ek352 => ?_)
          refine sd_iadd C dL_law_353 (by omega) (fun z353 ez353 => ?_)
          refine sd_sld C hLx ((i + 2)) ⟨by omega, by omega⟩ dL_law_354 ?_
          refine sd_pVi C (c_X4_row l D ad ca T σ β hS (xs ((i + 1))) (xs ((i + 2)))) mv_X4_row wm_L_40 (by decide) rfl rfl (by decide) rfl rfl (Nat.le_of_ble_eq_true rfl) dL_law_355 (fun r355 h355 => ?_)
          try dsimp only at h355
          have e1 := h355
          have hC1 := hS
          have hM1 := hM
          refine sd_aload_n C dL_law_358 1 rfl rfl ?_
          refine sd_aload_n C dL_law_359 3 rfl rfl ?_
          refine sd_iload_n C dL_law_360 0 rfl rfl ?_
          refine sd_iconst C dL_law_361 (by decide) (fun k361 ek361 => ?_)
          refine sd_iadd C dL_law_362 (by omega) (fun z362 ez362 => ?_)
          refine sd_sld C hLx ((i + 1)) ⟨by omega, by omega⟩ dL_law_363 ?_
          refine sd_aload_n C dL_law_364 3 rfl rfl ?_
          refine sd_iload_n C dL_law_365 0 rfl rfl ?_
          refine sd_iconst C dL_law_366 (by decide) (fun k366 ek366 => ?_)
          refine sd_iadd C dL_law_367 (by omega) (fun z367 ez367 => ?_)
          refine sd_sld C hLx ((i + 2)) ⟨by omega, by omega⟩ dL_law_368 ?_
          refine sd_callVi C (c_X5_row l D ad ca T σ β hM1 hG (xs ((i + 1))) (xs ((i + 2)))) mv_X5_row wm_L_43 (by decide) rfl rfl (by decide) rfl rfl (Nat.le_of_ble_eq_true rfl) dL_law_369 (fun r369 s369 h369 => ?_)
          try dsimp only at h369
          obtain ⟨e2, hM2, hl2⟩ := h369
          have hC2 := sd_CS_lo hl2 hC1
          have hK2 := hK
          refine sd_icmp_eq C 756 dL_law_372 (by decide) (fun c372 => ?_) (fun c372 => ?_)
          · exact key756 s369 (by omega) ⟨_, hC2, hM2, hK2⟩
          · exact absurd c372 (by omega)
        · refine sd_tableIn C 377 (7) dL_law_32 w32 (by decide) rfl (by decide) ?_
          refine sd_aload_n C dL_law_377 2 rfl rfl ?_
          refine sd_aload_n C dL_law_378 3 rfl rfl ?_
          refine sd_iload_n C dL_law_379 0 rfl rfl ?_
          refine sd_iconst C dL_law_380 (by decide) (fun k380 ek380 => ?_)
          refine sd_iadd C dL_law_381 (by omega) (fun z381 ez381 => ?_)
          refine sd_sld C hLx ((i + 1)) ⟨by omega, by omega⟩ dL_law_382 ?_
          refine sd_aload_n C dL_law_383 3 rfl rfl ?_
          refine sd_iload_n C dL_law_384 0 rfl rfl ?_
          refine sd_iconst C dL_law_385 (by decide) (fun k385 ek385 => ?_)
          refine sd_iadd C dL_law_386 (by omega) (fun z386 ez386 => ?_)
          refine sd_sld C hLx ((i + 2)) ⟨by omega, by omega⟩ dL_law_387 ?_
          refine sd_aload_n C dL_law_388 3 rfl rfl ?_
          refine sd_iload_n C dL_law_389 0 rfl rfl ?_
          refine sd_iconst C dL_law_390 (by decide) (fun k390 ek390 => ?_)
          refine sd_iadd C dL_law_391 (by omega) (fun z391 ez391 => ?_)
          refine sd_sld C hLx ((i + 3)) ⟨by omega, by omega⟩ dL_law_392 ?_
          refine sd_pVi C (c_X4_sitting l D ad ca T σ β hS (xs ((i + 1))) (xs ((i + 2))) (xs ((i + 3)))) mv_X4_sitting wm_L_44 (by decide) rfl rfl (by decide) rfl rfl (Nat.le_of_ble_eq_true rfl) dL_law_393 (fun r393 h393 => ?_)
          try dsimp only at h393
          have e1 := h393
          have hC1 := hS
          have hM1 := hM
          refine sd_aload_n C dL_law_396 1 rfl rfl ?_
          refine sd_aload_n C dL_law_397 3 rfl rfl ?_
          refine sd_iload_n C dL_law_398 0 rfl rfl ?_
          refine sd_iconst C dL_law_399 (by decide) (fun k399 ek399 => ?_)
          refine sd_iadd C dL_law_400 (by omega) (fun z400 ez400 => ?_)
          refine sd_sld C hLx ((i + 1)) ⟨by omega, by omega⟩ dL_law_401 ?_
          refine sd_aload_n C dL_law_402 3 rfl rfl ?_
          refine sd_iload_n C dL_law_403 0 rfl rfl ?_
          refine sd_iconst C dL_law_404 (by decide) (fun k404 ek404 => ?_)
          refine sd_iadd C dL_law_405 (by omega) (fun z405 ez405 => ?_)
          refine sd_sld C hLx ((i + 2)) ⟨by omega, by omega⟩ dL_law_406 ?_
          refine sd_aload_n C dL_law_407 3 rfl rfl ?_
          refine sd_iload_n C dL_law_408 0 rfl rfl ?_
          refine sd_iconst C dL_law_409 (by decide) (fun k409 ek409 => ?_)
          refine sd_iadd C dL_law_410 (by omega) (fun z410 ez410 => ?_)
          refine sd_sld C hLx ((i + 3)) ⟨by omega, by omega⟩ dL_law_411 ?_
          refine sd_callVi C (c_X5_sitting l D ad ca T σ β hM1 hG (xs ((i + 1))) (xs ((i + 2))) (xs ((i + 3)))) mv_X5_sitting wm_L_47 (by decide) rfl rfl (by decide) rfl rfl (Nat.le_of_ble_eq_true rfl) dL_law_412 (fun r412 s412 h412 => ?_)
          try dsimp only at h412
          obtain ⟨e2, hM2, hl2⟩ := h412
          have hC2 := sd_CS_lo hl2 hC1
          have hK2 := hK
          refine sd_icmp_eq C 756 dL_law_415 (by decide) (fun c415 => ?_) (fun c415 => ?_)
          · exact key756 s412 (by omega) ⟨_, hC2, hM2, hK2⟩
          · exact absurd c415 (by omega)
        · refine sd_tableIn C 420 (8) dL_law_32 w32 (by decide) rfl (by decide) ?_
          refine sd_aload_n C dL_law_420 2 rfl rfl ?_
          refine sd_aload_n C dL_law_421 3 rfl rfl ?_
          refine sd_iload_n C dL_law_422 0 rfl rfl ?_
          refine sd_iconst C dL_law_423 (by decide) (fun k423 ek423 => ?_)
          refine sd_iadd C dL_law_424 (by omega) (fun z424 ez424 => ?_)
          refine sd_sld C hLx ((i + 1)) ⟨by omega, by omega⟩ dL_law_425 ?_
          refine sd_pVi C (c_X4_count l D ad ca T σ β hS (xs ((i + 1)))) mv_X4_count wm_L_48 (by decide) rfl rfl (by decide) rfl rfl (Nat.le_of_ble_eq_true rfl) dL_law_426 (fun r426 h426 => ?_)
          try dsimp only at h426
          have e1 := h426
          have hC1 := hS
          have hM1 := hM
          refine sd_aload_n C dL_law_429 1 rfl rfl ?_
          refine sd_aload_n C dL_law_430 3 rfl rfl ?_
          refine sd_iload_n C dL_law_431 0 rfl rfl ?_
          refine sd_iconst C dL_law_432 (by decide) (fun k432 ek432 => ?_)
          refine sd_iadd C dL_law_433 (by omega) (fun z433 ez433 => ?_)
          refine sd_sld C hLx ((i + 1)) ⟨by omega, by omega⟩ dL_law_434 ?_
          refine sd_callVi C (c_X5_count l D ad ca T σ β hM1 hG (xs ((i + 1)))) mv_X5_count wm_L_52 (by decide) rfl rfl (by decide) rfl rfl (Nat.le_of_ble_eq_true rfl) dL_law_435 (fun r435 s435 h435 => ?_)
          try dsimp only at h435
          obtain ⟨e2, hM2, hl2⟩ := h435
          have hC2 := sd_CS_lo hl2 hC1
          have hK2 := hK
          refine sd_icmp_eq C 756 dL_law_438 (by decide) (fun c438 => ?_) (fun c438 => ?_)
          · exact key756 s435 (by omega) ⟨_, hC2, hM2, hK2⟩
          · exact absurd c438 (by omega)
        · refine sd_tableIn C 443 (9) dL_law_32 w32 (by decide) rfl (by decide) ?_
          refine sd_aload_n C dL_law_443 2 rfl rfl ?_
          refine sd_aload_n C dL_law_444 3 rfl rfl ?_
          refine sd_iload_n C dL_law_445 0 rfl rfl ?_
          refine sd_iconst C dL_law_446 (by decide) (fun k446 ek446 => ?_)
          refine sd_iadd C dL_law_447 (by omega) (fun z447 ez447 => ?_)
          refine sd_sld C hLx ((i + 1)) ⟨by omega, by omega⟩ dL_law_448 ?_
          refine sd_if_eq C 456 dL_law_449 (by decide) (fun c449 => ?_) (fun c449 => ?_)
          · refine sd_iconst C dL_law_456 (by decide) (fun k456 ek456 => ?_)
            refine sd_aload_n C dL_law_457 3 rfl rfl ?_
            refine sd_iload_n C dL_law_458 0 rfl rfl ?_
            refine sd_iconst C dL_law_459 (by decide) (fun k459 ek459 => ?_)
            refine sd_iadd C dL_law_460 (by omega) (fun z460 ez460 => ?_)
            refine sd_sld C hLx ((i + 2)) ⟨by omega, by omega⟩ dL_law_461 ?_
            refine sd_aload_n C dL_law_462 3 rfl rfl ?_
            refine sd_iload_n C dL_law_463 0 rfl rfl ?_
            refine sd_iconst C dL_law_464 (by decide) (fun k464 ek464 => ?_)
            refine sd_iadd C dL_law_465 (by omega) (fun z465 ez465 => ?_)
            refine sd_sld C hLx ((i + 3)) ⟨by omega, by omega⟩ dL_law_466 ?_
            refine sd_callVi C (c_X4_funnel l D ad ca T σ β hS k456 (xs ((i + 2))) (xs ((i + 3))) (by omega)) mv_X4_funnel wm_L_53 (by decide) rfl rfl (by decide) rfl rfl (Nat.le_of_ble_eq_true rfl) dL_law_467 (fun r467 s467 h467 => ?_)
            try dsimp only at h467
            obtain ⟨e1, hC1, hh1⟩ := h467
            have hM1 := sd_MR_hi hh1 hM
            refine sd_aload_n C dL_law_470 1 rfl rfl ?_
            refine sd_aload_n C dL_law_471 3 rfl rfl ?_
            refine sd_iload_n C dL_law_472 0 rfl rfl ?_
            refine sd_iconst C dL_law_473 (by decide) (fun k473 ek473 => ?_)
            refine sd_iadd C dL_law_474 (by omega) (fun z474 ez474 => ?_)
            refine sd_sld C hLx ((i + 1)) ⟨by omega, by omega⟩ dL_law_475 ?_
            refine sd_if_eq C 483 dL_law_476 (by decide) (fun c476 => ?_) (fun c476 => ?_)
            · refine sd_iconst C dL_law_483 (by decide) (fun k483 ek483 => ?_)
              refine sd_aload_n C dL_law_484 3 rfl rfl ?_
              refine sd_iload_n C dL_law_485 0 rfl rfl ?_
              refine sd_iconst C dL_law_486 (by decide) (fun k486 ek486 => ?_)
              refine sd_iadd C dL_law_487 (by omega) (fun z487 ez487 => ?_)
              refine sd_sld C hLx ((i + 2)) ⟨by omega, by omega⟩ dL_law_488 ?_
              refine sd_aload_n C dL_law_489 3 rfl rfl ?_
              refine sd_iload_n C dL_law_490 0 rfl rfl ?_
              refine sd_iconst C dL_law_491 (by decide) (fun k491 ek491 => ?_)
              refine sd_iadd C dL_law_492 (by omega) (fun z492 ez492 => ?_)
              refine sd_sld C hLx ((i + 3)) ⟨by omega, by omega⟩ dL_law_493 ?_
              refine sd_callVi C (c_X5_funnel l D ad ca T s467 β hM1 hG k483 (xs ((i + 2))) (xs ((i + 3))) (by omega)) mv_X5_funnel wm_L_57 (by decide) rfl rfl (by decide) rfl rfl (Nat.le_of_ble_eq_true rfl) dL_law_494 (fun r494 s494 h494 => ?_)
              try dsimp only at h494
              obtain ⟨e2, hM2, hl2⟩ := h494
              have hC2 := sd_CS_lo hl2 hC1
              rw [show k483.toInt = k456.toInt by omega] at hM2
              have hK2 := up_funnel_RK hK k456.toInt (xs ((i + 2))).toInt (xs ((i + 3))).toInt
              refine sd_icmp_eq C 756 dL_law_497 (by decide) (fun c497 => ?_) (fun c497 => ?_)
              · exact key756 s494 (by omega) ⟨_, hC2, hM2, hK2⟩
              · exact absurd c497 (by omega)
            · exact absurd c476 (by omega)
          · refine sd_iconst C dL_law_452 (by decide) (fun k452 ek452 => ?_)
            refine sd_goto C 457 dL_law_453 (by decide) ?_
            refine sd_aload_n C dL_law_457 3 rfl rfl ?_
            refine sd_iload_n C dL_law_458 0 rfl rfl ?_
            refine sd_iconst C dL_law_459 (by decide) (fun k459 ek459 => ?_)
            refine sd_iadd C dL_law_460 (by omega) (fun z460 ez460 => ?_)
            refine sd_sld C hLx ((i + 2)) ⟨by omega, by omega⟩ dL_law_461 ?_
            refine sd_aload_n C dL_law_462 3 rfl rfl ?_
            refine sd_iload_n C dL_law_463 0 rfl rfl ?_
            refine sd_iconst C dL_law_464 (by decide) (fun k464 ek464 => ?_)
            refine sd_iadd C dL_law_465 (by omega) (fun z465 ez465 => ?_)
            refine sd_sld C hLx ((i + 3)) ⟨by omega, by omega⟩ dL_law_466 ?_
            refine sd_callVi C (c_X4_funnel l D ad ca T σ β hS k452 (xs ((i + 2))) (xs ((i + 3))) (by omega)) mv_X4_funnel wm_L_53 (by decide) rfl rfl (by decide) rfl rfl (Nat.le_of_ble_eq_true rfl) dL_law_467 (fun r467 s467 h467 => ?_)
            try dsimp only at h467
            obtain ⟨e1, hC1, hh1⟩ := h467
            have hM1 := sd_MR_hi hh1 hM
            refine sd_aload_n C dL_law_470 1 rfl rfl ?_
            refine sd_aload_n C dL_law_471 3 rfl rfl ?_
            refine sd_iload_n C dL_law_472 0 rfl rfl ?_
            refine sd_iconst C dL_law_473 (by decide) (fun k473 ek473 => ?_)
            refine sd_iadd C dL_law_474 (by omega) (fun z474 ez474 => ?_)
            refine sd_sld C hLx ((i + 1)) ⟨by omega, by omega⟩ dL_law_475 ?_
            refine sd_if_eq C 483 dL_law_476 (by decide) (fun c476 => ?_) (fun c476 => ?_)
            · exact absurd c476 (by omega)
            · refine sd_iconst C dL_law_479 (by decide) (fun k479 ek479 => ?_)
              refine sd_goto C 484 dL_law_480 (by decide) ?_
              refine sd_aload_n C dL_law_484 3 rfl rfl ?_
              refine sd_iload_n C dL_law_485 0 rfl rfl ?_
              refine sd_iconst C dL_law_486 (by decide) (fun k486 ek486 => ?_)
              refine sd_iadd C dL_law_487 (by omega) (fun z487 ez487 => ?_)
              refine sd_sld C hLx ((i + 2)) ⟨by omega, by omega⟩ dL_law_488 ?_
              refine sd_aload_n C dL_law_489 3 rfl rfl ?_
              refine sd_iload_n C dL_law_490 0 rfl rfl ?_
              refine sd_iconst C dL_law_491 (by decide) (fun k491 ek491 => ?_)
              refine sd_iadd C dL_law_492 (by omega) (fun z492 ez492 => ?_)
              refine sd_sld C hLx ((i + 3)) ⟨by omega, by omega⟩ dL_law_493 ?_
              refine sd_callVi C (c_X5_funnel l D ad ca T s467 β hM1 hG k479 (xs ((i + 2))) (xs ((i + 3))) (by omega)) mv_X5_funnel wm_L_57 (by decide) rfl rfl (by decide) rfl rfl (Nat.le_of_ble_eq_true rfl) dL_law_494 (fun r494 s494 h494 => ?_)
              try dsimp only at h494
              obtain ⟨e2, hM2, hl2⟩ := h494
              have hC2 := sd_CS_lo hl2 hC1
              rw [show k479.toInt = k452.toInt by omega] at hM2
              have hK2 := up_funnel_RK hK k452.toInt (xs ((i + 2))).toInt (xs ((i + 3))).toInt
              refine sd_icmp_eq C 756 dL_law_497 (by decide) (fun c497 => ?_) (fun c497 => ?_)
              · exact key756 s494 (by omega) ⟨_, hC2, hM2, hK2⟩
              · exact absurd c497 (by omega)
        · refine sd_tableIn C 502 (10) dL_law_32 w32 (by decide) rfl (by decide) ?_
          refine sd_aload_n C dL_law_502 2 rfl rfl ?_
          refine sd_aload_n C dL_law_503 3 rfl rfl ?_
          refine sd_iload_n C dL_law_504 0 rfl rfl ?_
          refine sd_iconst C dL_law_505 (by decide) (fun k505 ek505 => ?_)
          refine sd_iadd C dL_law_506 (by omega) (fun z506 ez506 => ?_)
          refine sd_sld C hLx ((i + 1)) ⟨by omega, by omega⟩ dL_law_507 ?_
          refine sd_aload_n C dL_law_508 3 rfl rfl ?_
          refine sd_iload_n C dL_law_509 0 rfl rfl ?_
          refine sd_iconst C dL_law_510 (by decide) (fun k510 ek510 => ?_)
          refine sd_iadd C dL_law_511 (by omega) (fun z511 ez511 => ?_)
          refine sd_sld C hLx ((i + 2)) ⟨by omega, by omega⟩ dL_law_512 ?_
          refine sd_callVi C (c_X4_step l D ad ca T σ β hS (xs ((i + 1))) (xs ((i + 2)))) mv_X4_step wm_L_58 (by decide) rfl rfl (by decide) rfl rfl (Nat.le_of_ble_eq_true rfl) dL_law_513 (fun r513 s513 h513 => ?_)
          try dsimp only at h513
          obtain ⟨e1, hC1, hh1⟩ := h513
          have hM1 := sd_MR_hi hh1 hM
          refine sd_aload_n C dL_law_516 1 rfl rfl ?_
          refine sd_aload_n C dL_law_517 3 rfl rfl ?_
          refine sd_iload_n C dL_law_518 0 rfl rfl ?_
          refine sd_iconst C dL_law_519 (by decide) (fun k519 ek519 => ?_)
          refine sd_iadd C dL_law_520 (by omega) (fun z520 ez520 => ?_)
          refine sd_sld C hLx ((i + 1)) ⟨by omega, by omega⟩ dL_law_521 ?_
          refine sd_aload_n C dL_law_522 3 rfl rfl ?_
          refine sd_iload_n C dL_law_523 0 rfl rfl ?_
          refine sd_iconst C dL_law_524 (by decide) (fun k524 ek524 => ?_)
          refine sd_iadd C dL_law_525 (by omega) (fun z525 ez525 => ?_)
          refine sd_sld C hLx ((i + 2)) ⟨by omega, by omega⟩ dL_law_526 ?_
          refine sd_callVi C (c_X5_step l D ad ca T s513 β hM1 hG (xs ((i + 1))) (xs ((i + 2)))) mv_X5_step wm_L_61 (by decide) rfl rfl (by decide) rfl rfl (Nat.le_of_ble_eq_true rfl) dL_law_527 (fun r527 s527 h527 => ?_)
          try dsimp only at h527
          obtain ⟨e2, hM2, hl2⟩ := h527
          have hC2 := sd_CS_lo hl2 hC1
          have hK2 := up_step_RK hK (xs ((i + 1))).toInt (xs ((i + 2))).toInt
          refine sd_icmp_eq C 756 dL_law_530 (by decide) (fun c530 => ?_) (fun c530 => ?_)
          · exact key756 s527 (by omega) ⟨_, hC2, hM2, hK2⟩
          · exact absurd c530 (by omega)
        · refine sd_tableIn C 535 (11) dL_law_32 w32 (by decide) rfl (by decide) ?_
          refine sd_aload_n C dL_law_535 2 rfl rfl ?_
          refine sd_aload_n C dL_law_536 3 rfl rfl ?_
          refine sd_iload_n C dL_law_537 0 rfl rfl ?_
          refine sd_iconst C dL_law_538 (by decide) (fun k538 ek538 => ?_)
          refine sd_iadd C dL_law_539 (by omega) (fun z539 ez539 => ?_)
          refine sd_sld C hLx ((i + 1)) ⟨by omega, by omega⟩ dL_law_540 ?_
          refine sd_aload_n C dL_law_541 3 rfl rfl ?_
          refine sd_iload_n C dL_law_542 0 rfl rfl ?_
          refine sd_iconst C dL_law_543 (by decide) (fun k543 ek543 => ?_)
          refine sd_iadd C dL_law_544 (by omega) (fun z544 ez544 => ?_)
          refine sd_sld C hLx ((i + 2)) ⟨by omega, by omega⟩ dL_law_545 ?_
          refine sd_callVi C (c_X4_ways l D ad ca T σ β hS (xs ((i + 1))) (xs ((i + 2)))) mv_X4_ways wm_L_62 (by decide) rfl rfl (by decide) rfl rfl (Nat.le_of_ble_eq_true rfl) dL_law_546 (fun r546 s546 h546 => ?_)
          try dsimp only at h546
          obtain ⟨e1, hC1, hh1⟩ := h546
          have hM1 := sd_MR_hi hh1 hM
          refine sd_aload_n C dL_law_549 1 rfl rfl ?_
          refine sd_aload_n C dL_law_550 3 rfl rfl ?_
          refine sd_iload_n C dL_law_551 0 rfl rfl ?_
          refine sd_iconst C dL_law_552 (by decide) (fun k552 ek552 => ?_)
          refine sd_iadd C dL_law_553 (by omega) (fun z553 ez553 => ?_)
          refine sd_sld C hLx ((i + 1)) ⟨by omega, by omega⟩ dL_law_554 ?_
          refine sd_aload_n C dL_law_555 3 rfl rfl ?_
          refine sd_iload_n C dL_law_556 0 rfl rfl ?_
          refine sd_iconst C dL_law_557 (by decide) (fun k557 ek557 => ?_)
          refine sd_iadd C dL_law_558 (by omega) (fun z558 ez558 => ?_)
          refine sd_sld C hLx ((i + 2)) ⟨by omega, by omega⟩ dL_law_559 ?_
          refine sd_callVi C (c_X5_ways l D ad ca T s546 β hM1 hG (xs ((i + 1))) (xs ((i + 2)))) mv_X5_ways wm_L_65 (by decide) rfl rfl (by decide) rfl rfl (Nat.le_of_ble_eq_true rfl) dL_law_560 (fun r560 s560 h560 => ?_)
          try dsimp only at h560
          obtain ⟨e2, hM2, hl2⟩ := h560
          have hC2 := sd_CS_lo hl2 hC1
          have hK2 := hK
          refine sd_icmp_eq C 756 dL_law_563 (by decide) (fun c563 => ?_) (fun c563 => ?_)
          · exact key756 s560 (by omega) ⟨_, hC2, hM2, hK2⟩
          · exact absurd c563 (by omega)
        · refine sd_tableIn C 568 (12) dL_law_32 w32 (by decide) rfl (by decide) ?_
          refine sd_aload_n C dL_law_568 2 rfl rfl ?_
          refine sd_aload_n C dL_law_569 3 rfl rfl ?_
          refine sd_iload_n C dL_law_570 0 rfl rfl ?_
          refine sd_iconst C dL_law_571 (by decide) (fun k571 ek571 => ?_)
          refine sd_iadd C dL_law_572 (by omega) (fun z572 ez572 => ?_)
          refine sd_sld C hLx ((i + 1)) ⟨by omega, by omega⟩ dL_law_573 ?_
          refine sd_aload_n C dL_law_574 3 rfl rfl ?_
          refine sd_iload_n C dL_law_575 0 rfl rfl ?_
          refine sd_iconst C dL_law_576 (by decide) (fun k576 ek576 => ?_)
          refine sd_iadd C dL_law_577 (by omega) (fun z577 ez577 => ?_)
          refine sd_sld C hLx ((i + 2)) ⟨by omega, by omega⟩ dL_law_578 ?_
          refine sd_aload_n C dL_law_579 3 rfl rfl ?_
          refine sd_iload_n C dL_law_580 0 rfl rfl ?_
          refine sd_iconst C dL_law_581 (by decide) (fun k581 ek581 => ?_)
          refine sd_iadd C dL_law_582 (by omega) (fun z582 ez582 => ?_)
          refine sd_sld C hLx ((i + 3)) ⟨by omega, by omega⟩ dL_law_583 ?_
          refine sd_aload_n C dL_law_584 3 rfl rfl ?_
          refine sd_iload_n C dL_law_585 0 rfl rfl ?_
          refine sd_iconst C dL_law_586 (by decide) (fun k586 ek586 => ?_)
          refine sd_iadd C dL_law_587 (by omega) (fun z587 ez587 => ?_)
          refine sd_sld C hLx ((i + 4)) ⟨by omega, by omega⟩ dL_law_588 ?_
          refine sd_callVi C (c_X4_way l D ad ca T σ β hS (xs ((i + 1))) (xs ((i + 2))) (xs ((i + 3))) (xs ((i + 4)))) mv_X4_way wm_L_66 (by decide) rfl rfl (by decide) rfl rfl (Nat.le_of_ble_eq_true rfl) dL_law_589 (fun r589 s589 h589 => ?_)
          try dsimp only at h589
          obtain ⟨e1, hC1, hh1⟩ := h589
          have hM1 := sd_MR_hi hh1 hM
          refine sd_aload_n C dL_law_592 1 rfl rfl ?_
          refine sd_aload_n C dL_law_593 3 rfl rfl ?_
          refine sd_iload_n C dL_law_594 0 rfl rfl ?_
          refine sd_iconst C dL_law_595 (by decide) (fun k595 ek595 => ?_)
          refine sd_iadd C dL_law_596 (by omega) (fun z596 ez596 => ?_)
          refine sd_sld C hLx ((i + 1)) ⟨by omega, by omega⟩ dL_law_597 ?_
          refine sd_aload_n C dL_law_598 3 rfl rfl ?_
          refine sd_iload_n C dL_law_599 0 rfl rfl ?_
          refine sd_iconst C dL_law_600 (by decide) (fun k600 ek600 => ?_)
          refine sd_iadd C dL_law_601 (by omega) (fun z601 ez601 => ?_)
          refine sd_sld C hLx ((i + 2)) ⟨by omega, by omega⟩ dL_law_602 ?_
          refine sd_aload_n C dL_law_603 3 rfl rfl ?_
          refine sd_iload_n C dL_law_604 0 rfl rfl ?_
          refine sd_iconst C dL_law_605 (by decide) (fun k605 ek605 => ?_)
          refine sd_iadd C dL_law_606 (by omega) (fun z606 ez606 => ?_)
          refine sd_sld C hLx ((i + 3)) ⟨by omega, by omega⟩ dL_law_607 ?_
          refine sd_aload_n C dL_law_608 3 rfl rfl ?_
          refine sd_iload_n C dL_law_609 0 rfl rfl ?_
          refine sd_iconst C dL_law_610 (by decide) (fun k610 ek610 => ?_)
          refine sd_iadd C dL_law_611 (by omega) (fun z611 ez611 => ?_)
          refine sd_sld C hLx ((i + 4)) ⟨by omega, by omega⟩ dL_law_612 ?_
          refine sd_callVi C (c_X5_way l D ad ca T s589 β hM1 hG (xs ((i + 1))) (xs ((i + 2))) (xs ((i + 3))) (xs ((i + 4)))) mv_X5_way wm_L_70 (by decide) rfl rfl (by decide) rfl rfl (Nat.le_of_ble_eq_true rfl) dL_law_613 (fun r613 s613 h613 => ?_)
          try dsimp only at h613
          obtain ⟨e2, hM2, hl2⟩ := h613
          have hC2 := sd_CS_lo hl2 hC1
          have hK2 := hK
          refine sd_icmp_eq C 756 dL_law_616 (by decide) (fun c616 => ?_) (fun c616 => ?_)
          · exact key756 s613 (by omega) ⟨_, hC2, hM2, hK2⟩
          · exact absurd c616 (by omega)
        · refine sd_tableIn C 621 (13) dL_law_32 w32 (by decide) rfl (by decide) ?_
          refine sd_aload_n C dL_law_621 2 rfl rfl ?_
          refine sd_aload_n C dL_law_622 3 rfl rfl ?_
          refine sd_iload_n C dL_law_623 0 rfl rfl ?_
          refine sd_iconst C dL_law_624 (by decide) (fun k624 ek624 => ?_)
          refine sd_iadd C dL_law_625 (by omega) (fun z625 ez625 => ?_)
          refine sd_sld C hLx ((i + 1)) ⟨by omega, by omega⟩ dL_law_626 ?_
          refine sd_aload_n C dL_law_627 3 rfl rfl ?_
          refine sd_iload_n C dL_law_628 0 rfl rfl ?_
          refine sd_iconst C dL_law_629 (by decide) (fun k629 ek629 => ?_)
          refine sd_iadd C dL_law_630 (by omega) (fun z630 ez630 => ?_)
          refine sd_sld C hLx ((i + 2)) ⟨by omega, by omega⟩ dL_law_631 ?_
          refine sd_callVi C (c_X4_reach l D ad ca T σ β hS (xs ((i + 1))) (xs ((i + 2)))) mv_X4_reach wm_L_71 (by decide) rfl rfl (by decide) rfl rfl (Nat.le_of_ble_eq_true rfl) dL_law_632 (fun r632 s632 h632 => ?_)
          try dsimp only at h632
          obtain ⟨e1, hC1, hh1⟩ := h632
          have hM1 := sd_MR_hi hh1 hM
          refine sd_aload_n C dL_law_635 1 rfl rfl ?_
          refine sd_aload_n C dL_law_636 3 rfl rfl ?_
          refine sd_iload_n C dL_law_637 0 rfl rfl ?_
          refine sd_iconst C dL_law_638 (by decide) (fun k638 ek638 => ?_)
          refine sd_iadd C dL_law_639 (by omega) (fun z639 ez639 => ?_)
          refine sd_sld C hLx ((i + 1)) ⟨by omega, by omega⟩ dL_law_640 ?_
          refine sd_aload_n C dL_law_641 3 rfl rfl ?_
          refine sd_iload_n C dL_law_642 0 rfl rfl ?_
          refine sd_iconst C dL_law_643 (by decide) (fun k643 ek643 => ?_)
          refine sd_iadd C dL_law_644 (by omega) (fun z644 ez644 => ?_)
          refine sd_sld C hLx ((i + 2)) ⟨by omega, by omega⟩ dL_law_645 ?_
          refine sd_callVi C (c_X5_reach l D ad ca T s632 β hM1 hG (xs ((i + 1))) (xs ((i + 2)))) mv_X5_reach wm_L_74 (by decide) rfl rfl (by decide) rfl rfl (Nat.le_of_ble_eq_true rfl) dL_law_646 (fun r646 s646 h646 => ?_)
          try dsimp only at h646
          obtain ⟨e2, hM2, hl2⟩ := h646
          have hC2 := sd_CS_lo hl2 hC1
          have hK2 := hK
          refine sd_icmp_eq C 756 dL_law_649 (by decide) (fun c649 => ?_) (fun c649 => ?_)
          · exact key756 s646 (by omega) ⟨_, hC2, hM2, hK2⟩
          · exact absurd c649 (by omega)
        · refine sd_tableIn C 654 (14) dL_law_32 w32 (by decide) rfl (by decide) ?_
          refine sd_aload_n C dL_law_654 2 rfl rfl ?_
          refine sd_aload_n C dL_law_655 3 rfl rfl ?_
          refine sd_iload_n C dL_law_656 0 rfl rfl ?_
          refine sd_iconst C dL_law_657 (by decide) (fun k657 ek657 => ?_)
          refine sd_iadd C dL_law_658 (by omega) (fun z658 ez658 => ?_)
          refine sd_sld C hLx ((i + 1)) ⟨by omega, by omega⟩ dL_law_659 ?_
          refine sd_aload_n C dL_law_660 3 rfl rfl ?_
          refine sd_iload_n C dL_law_661 0 rfl rfl ?_
          refine sd_iconst C dL_law_662 (by decide) (fun k662 ek662 => ?_)
          refine sd_iadd C dL_law_663 (by omega) (fun z663 ez663 => ?_)
          refine sd_sld C hLx ((i + 2)) ⟨by omega, by omega⟩ dL_law_664 ?_
          refine sd_callVi C (c_X4_reached l D ad ca T σ β hS (xs ((i + 1))) (xs ((i + 2)))) mv_X4_reached wm_L_75 (by decide) rfl rfl (by decide) rfl rfl (Nat.le_of_ble_eq_true rfl) dL_law_665 (fun r665 s665 h665 => ?_)
          try dsimp only at h665
          obtain ⟨e1, hC1, hh1⟩ := h665
          have hM1 := sd_MR_hi hh1 hM
          refine sd_aload_n C dL_law_668 1 rfl rfl ?_
          refine sd_aload_n C dL_law_669 3 rfl rfl ?_
          refine sd_iload_n C dL_law_670 0 rfl rfl ?_
          refine sd_iconst C dL_law_671 (by decide) (fun k671 ek671 => ?_)
          refine sd_iadd C dL_law_672 (by omega) (fun z672 ez672 => ?_)
          refine sd_sld C hLx ((i + 1)) ⟨by omega, by omega⟩ dL_law_673 ?_
          refine sd_aload_n C dL_law_674 3 rfl rfl ?_
          refine sd_iload_n C dL_law_675 0 rfl rfl ?_
          refine sd_iconst C dL_law_676 (by decide) (fun k676 ek676 => ?_)
          refine sd_iadd C dL_law_677 (by omega) (fun z677 ez677 => ?_)
          refine sd_sld C hLx ((i + 2)) ⟨by omega, by omega⟩ dL_law_678 ?_
          refine sd_callVi C (c_X5_reached l D ad ca T s665 β hM1 hG (xs ((i + 1))) (xs ((i + 2)))) mv_X5_reached wm_L_78 (by decide) rfl rfl (by decide) rfl rfl (Nat.le_of_ble_eq_true rfl) dL_law_679 (fun r679 s679 h679 => ?_)
          try dsimp only at h679
          obtain ⟨e2, hM2, hl2⟩ := h679
          have hC2 := sd_CS_lo hl2 hC1
          have hK2 := hK
          refine sd_icmp_eq C 756 dL_law_682 (by decide) (fun c682 => ?_) (fun c682 => ?_)
          · exact key756 s679 (by omega) ⟨_, hC2, hM2, hK2⟩
          · exact absurd c682 (by omega)
        · refine sd_tableIn C 687 (15) dL_law_32 w32 (by decide) rfl (by decide) ?_
          refine sd_aload_n C dL_law_687 2 rfl rfl ?_
          refine sd_aload_n C dL_law_688 3 rfl rfl ?_
          refine sd_iload_n C dL_law_689 0 rfl rfl ?_
          refine sd_iconst C dL_law_690 (by decide) (fun k690 ek690 => ?_)
          refine sd_iadd C dL_law_691 (by omega) (fun z691 ez691 => ?_)
          refine sd_sld C hLx ((i + 1)) ⟨by omega, by omega⟩ dL_law_692 ?_
          refine sd_pVi C (c_X4_born l D ad ca T σ β hS (xs ((i + 1)))) mv_X4_born wm_L_79 (by decide) rfl rfl (by decide) rfl rfl (Nat.le_of_ble_eq_true rfl) dL_law_693 (fun r693 h693 => ?_)
          try dsimp only at h693
          have e1 := h693
          have hC1 := hS
          have hM1 := hM
          refine sd_aload_n C dL_law_696 1 rfl rfl ?_
          refine sd_aload_n C dL_law_697 3 rfl rfl ?_
          refine sd_iload_n C dL_law_698 0 rfl rfl ?_
          refine sd_iconst C dL_law_699 (by decide) (fun k699 ek699 => ?_)
          refine sd_iadd C dL_law_700 (by omega) (fun z700 ez700 => ?_)
          refine sd_sld C hLx ((i + 1)) ⟨by omega, by omega⟩ dL_law_701 ?_
          refine sd_callVi C (c_X5_born l D ad ca T σ β hM1 hG (xs ((i + 1)))) mv_X5_born wm_L_82 (by decide) rfl rfl (by decide) rfl rfl (Nat.le_of_ble_eq_true rfl) dL_law_702 (fun r702 s702 h702 => ?_)
          try dsimp only at h702
          obtain ⟨e2, hM2, hl2⟩ := h702
          have hC2 := sd_CS_lo hl2 hC1
          have hK2 := hK
          refine sd_icmp_eq C 756 dL_law_705 (by decide) (fun c705 => ?_) (fun c705 => ?_)
          · exact key756 s702 (by omega) ⟨_, hC2, hM2, hK2⟩
          · exact absurd c705 (by omega)
        · refine sd_tableIn C 710 (16) dL_law_32 w32 (by decide) rfl (by decide) ?_
          refine sd_aload_n C dL_law_710 2 rfl rfl ?_
          refine sd_aload_n C dL_law_711 3 rfl rfl ?_
          refine sd_iload_n C dL_law_712 0 rfl rfl ?_
          refine sd_iconst C dL_law_713 (by decide) (fun k713 ek713 => ?_)
          refine sd_iadd C dL_law_714 (by omega) (fun z714 ez714 => ?_)
          refine sd_sld C hLx ((i + 1)) ⟨by omega, by omega⟩ dL_law_715 ?_
          refine sd_aload_n C dL_law_716 3 rfl rfl ?_
          refine sd_iload_n C dL_law_717 0 rfl rfl ?_
          refine sd_iconst C dL_law_718 (by decide) (fun k718 ek718 => ?_)
          refine sd_iadd C dL_law_719 (by omega) (fun z719 ez719 => ?_)
          refine sd_sld C hLx ((i + 2)) ⟨by omega, by omega⟩ dL_law_720 ?_
          refine sd_pVi C (c_X4_came l D ad ca T σ β hS (xs ((i + 1))) (xs ((i + 2)))) mv_X4_came wm_L_83 (by decide) rfl rfl (by decide) rfl rfl (Nat.le_of_ble_eq_true rfl) dL_law_721 (fun r721 h721 => ?_)
          try dsimp only at h721
          have e1 := h721
          have hC1 := hS
          have hM1 := hM
          refine sd_aload_n C dL_law_724 1 rfl rfl ?_
          refine sd_aload_n C dL_law_725 3 rfl rfl ?_
          refine sd_iload_n C dL_law_726 0 rfl rfl ?_
          refine sd_iconst C dL_law_727 (by decide) (fun k727 ek727 => ?_)
          refine sd_iadd C dL_law_728 (by omega) (fun z728 ez728 => ?_)
          refine sd_sld C hLx ((i + 1)) ⟨by omega, by omega⟩ dL_law_729 ?_
          refine sd_aload_n C dL_law_730 3 rfl rfl ?_
          refine sd_iload_n C dL_law_731 0 rfl rfl ?_
          refine sd_iconst C dL_law_732 (by decide) (fun k732 ek732 => ?_)
          refine sd_iadd C dL_law_733 (by omega) (fun z733 ez733 => ?_)
          refine sd_sld C hLx ((i + 2)) ⟨by omega, by omega⟩ dL_law_734 ?_
          refine sd_callVi C (c_X5_came l D ad ca T σ β hM1 hG (xs ((i + 1))) (xs ((i + 2)))) mv_X5_came wm_L_86 (by decide) rfl rfl (by decide) rfl rfl (Nat.le_of_ble_eq_true rfl) dL_law_735 (fun r735 s735 h735 => ?_)
          try dsimp only at h735
          obtain ⟨e2, hM2, hl2⟩ := h735
          have hC2 := sd_CS_lo hl2 hC1
          have hK2 := hK
          refine sd_icmp_eq C 756 dL_law_738 (by decide) (fun c738 => ?_) (fun c738 => ?_)
          · exact key756 s735 (by omega) ⟨_, hC2, hM2, hK2⟩
          · exact absurd c738 (by omega)
        · refine sd_tableIn C 743 (17) dL_law_32 w32 (by decide) rfl (by decide) ?_
          refine sd_aload_n C dL_law_743 2 rfl rfl ?_
          refine sd_pVi C (c_X4_digest l D ad ca T σ β hS ) mv_X4_digest wm_L_87 (by decide) rfl rfl (by decide) rfl rfl (Nat.le_of_ble_eq_true rfl) dL_law_744 (fun r744 h744 => ?_)
          try dsimp only at h744
          have e1 := h744
          have hC1 := hS
          have hM1 := hM
          refine sd_aload_n C dL_law_747 1 rfl rfl ?_
          refine sd_callVi C (c_X5_digest l D ad ca T σ β hM1 hG ) mv_X5_digest wm_L_91 (by decide) rfl rfl (by decide) rfl rfl (Nat.le_of_ble_eq_true rfl) dL_law_748 (fun r748 s748 h748 => ?_)
          try dsimp only at h748
          obtain ⟨e2, hM2, hl2⟩ := h748
          have hC2 := sd_CS_lo hl2 hC1
          have hK2 := hK
          refine sd_icmp_eq C 756 dL_law_751 (by decide) (fun c751 => ?_) (fun c751 => ?_)
          · exact key756 s748 (by omega) ⟨_, hC2, hM2, hK2⟩
          · exact absurd c751 (fun h => h (by rw [e1, e2]))
        · refine sd_tableOut C 756 dL_law_32 (by omega) (by decide) ?_
          exact key756 σ (by omega) ⟨β, hS, hM, hK⟩
  exact key18 _ y0 0 sd_z hy0 (Nat.zero_le L) lw_Inv0 (Nat.lt_succ_self _)

/-! the law's calls, one by one -/
abbrev Lw (b : Nat) (ad : Fa) (t : Nat) : List (Option Value) := [some (.ref b), some (.ref (ad 0 0)), some (.ref (ad 11 0)), some (.ref (ad 12 0)), some (.int (nI (4 * t))), none, none, none]
theorem ix2 (k : Nat) : nI k + 2 = nI (k + 2) := by rw [show (2 : Int32) = nI 2 from rfl, nI_add]
theorem ix3 (k : Nat) : nI k + 3 = nI (k + 3) := by rw [show (3 : Int32) = nI 3 from rfl, nI_add]
theorem ix4 (k : Nat) : nI k + 4 = nI (k + 4) := by rw [show (4 : Int32) = nI 4 from rfl, nI_add]
section LW
variable {p : Program} {l : Launch} {e : Env} {s : State} {m : MethodId} {args : Array Value} {below : List Frame} {meth : Method} {c : Code} {Q : State → Prop} {ret : Option FieldType} {D : va_G} {dA : Nat → ClassId} {base b Ln n ver t nc ns : Nat} {xs : Nat → Int32} {ad : Fa} {I : Fi} {J : Fj} {R : Fr}

set_option maxRecDepth 100000 in
set_option maxHeartbeats 4000000 in
theorem lw_c0 (C : CX p s m args meth c cL_law 8 RL ret D dA base) (hX : XT s) (hV : XV base s) (hl : l.stackTraces = false) (hx : va_X b Ln xs s s.heap) (hbl : b < s.heap.size) (hbb : s.heap.size ≤ base) (hL : Ln ≤ 2048) (ht : 4 * t + 4 ≤ Ln) (hnc : nc + 5 ≤ 601024) (hns : ns + 47 ≤ 7293034) (hS : SIM n ver I J R) (hv : ver < 1000) (kk : ∀ (n2 ver2 : Nat) (ad2 : Fa) (I2 : Fi) (J2 : Fj) (R2 : Fr), SIM n2 ver2 I2 J2 R2 → ver2 ≤ ver + 1 → GX p l e room_1 s m args below meth c Q D dA base 8 ad2 (Nn n2) I2 J2 R2 (nc + 5) (ns + 47) 720 (Lw b ad2 t) []) : GX p l e room_1 s m args below meth c Q D dA base 8 ad (Nn n) I J R nc ns 124 (Lw b ad t) [] := by
  rcases op_leaf l D dA base n ver ad I J R hS (((xs (4 * t + 1)).toInt64 <<< ((32 : Int32).toInt64 &&& 63)) ||| ((xs (4 * t + 2)).toInt64 &&& 4294967295)) with h | ⟨h40, x, hc⟩
  · obtain ⟨x, I1, J1, R1, hc, hm⟩ := BO.s h
    refine x_aload_n C dL_law_124 rfl ?_
    refine x_aload_n C dL_law_125 rfl ?_
    refine x_iload C dL_law_126 rfl ?_
    refine x_iconst C 1 (by decide) dL_law_128 ?_
    refine x_iadd C dL_law_129 ?_
    refine x_sld C hx hbl hbb (4 * t + 1) (nI_1 _) (by omega) hL dL_law_130 ?_
    refine x_i2l C dL_law_131 ?_
    refine x_bipush C 32 (by decide) dL_law_132 ?_
    refine x_lshl C dL_law_134 ?_
    refine x_aload_n C dL_law_135 rfl ?_
    refine x_iload C dL_law_136 rfl ?_
    refine x_iconst C 2 (by decide) dL_law_138 ?_
    refine x_iadd C dL_law_139 ?_
    refine x_sld C hx hbl hbb (4 * t + 2) (ix2 _) (by omega) hL dL_law_140 ?_
    refine x_i2l C dL_law_141 ?_
    refine x_ldc2 C 4294967295 (gd_in (by decide +kernel) rfl) dL_law_142 ?_
    refine x_land C dL_law_145 ?_
    refine x_lor C dL_law_146 ?_
    refine x_cV1 C yo_X3_leaf m_L_23 rfl rfl (by first | assumption | exact Nat.one_pos) (hc) dL_law_147 rfl rfl (Nat.le_of_ble_eq_true rfl) ⟨by decide, by decide⟩ ⟨by show _ ≤ 601024; omega, by show _ ≤ 7293034; omega⟩ ?_
    refine x_aload_n C dL_law_150 rfl ?_
    refine x_aload_n C dL_law_151 rfl ?_
    refine x_iload C dL_law_152 rfl ?_
    refine x_iconst C 1 (by decide) dL_law_154 ?_
    refine x_iadd C dL_law_155 ?_
    refine x_sld C hx hbl hbb (4 * t + 1) (nI_1 _) (by omega) hL dL_law_156 ?_
    refine x_i2l C dL_law_157 ?_
    refine x_bipush C 32 (by decide) dL_law_158 ?_
    refine x_lshl C dL_law_160 ?_
    refine x_aload_n C dL_law_161 rfl ?_
    refine x_iload C dL_law_162 rfl ?_
    refine x_iconst C 2 (by decide) dL_law_164 ?_
    refine x_iadd C dL_law_165 ?_
    refine x_sld C hx hbl hbb (4 * t + 2) (ix2 _) (by omega) hL dL_law_166 ?_
    refine x_i2l C dL_law_167 ?_
    refine x_ldc2 C 4294967295 (gd_in (by decide +kernel) rfl) dL_law_168 ?_
    refine x_land C dL_law_171 ?_
    refine x_lor C dL_law_172 ?_
    refine x_cVS C (Sp := SIM n ver) yo_X4_leaf m_L_27 rfl rfl (by first | assumption | exact Nat.one_pos) (hm) dL_law_173 rfl rfl (Nat.le_of_ble_eq_true rfl) ⟨by decide, by decide⟩ ⟨by show _ ≤ 601024; omega, by show _ ≤ 7293034; omega⟩ ?_
    intro I2 J2 R2 hS2
    refine x_icmp_eq C 720 dL_law_176 (by decide) (fun h176 => ?_) (fun h176 => ?_)
    · skip
      exact x_widen (by omega) (by omega) (kk n ver ad I2 J2 R2 hS2 (by omega))
    · skip
      exact absurd rfl h176
  · skip
    refine x_aload_n C dL_law_124 rfl ?_
    refine x_aload_n C dL_law_125 rfl ?_
    refine x_iload C dL_law_126 rfl ?_
    refine x_iconst C 1 (by decide) dL_law_128 ?_
    refine x_iadd C dL_law_129 ?_
    refine x_sld C hx hbl hbb (4 * t + 1) (nI_1 _) (by omega) hL dL_law_130 ?_
    refine x_i2l C dL_law_131 ?_
    refine x_bipush C 32 (by decide) dL_law_132 ?_
    refine x_lshl C dL_law_134 ?_
    refine x_aload_n C dL_law_135 rfl ?_
    refine x_iload C dL_law_136 rfl ?_
    refine x_iconst C 2 (by decide) dL_law_138 ?_
    refine x_iadd C dL_law_139 ?_
    refine x_sld C hx hbl hbb (4 * t + 2) (ix2 _) (by omega) hL dL_law_140 ?_
    refine x_i2l C dL_law_141 ?_
    refine x_ldc2 C 4294967295 (gd_in (by decide +kernel) rfl) dL_law_142 ?_
    refine x_land C dL_law_145 ?_
    refine x_lor C dL_law_146 ?_
    refine x_cVX C hX yo_X3_leaf m_L_23 rfl rfl (by first | assumption | exact Nat.one_pos) (hc) dL_law_147 rfl rfl (Nat.le_of_ble_eq_true rfl) ⟨by decide, by decide⟩ ⟨by show _ ≤ 601024; omega, by show _ ≤ 7293034; omega⟩ ?_
    intro ad2 I1 J1 R1 had hm
    have eL : Lw b ad t = Lw b ad2 t := by simp only [Lw, had 0 0 Nat.one_pos, had 11 0 Nat.one_pos, had 12 0 Nat.one_pos]
    rw [eL]
    refine x_aload_n C dL_law_150 rfl ?_
    refine x_aload_n C dL_law_151 rfl ?_
    refine x_iload C dL_law_152 rfl ?_
    refine x_iconst C 1 (by decide) dL_law_154 ?_
    refine x_iadd C dL_law_155 ?_
    refine x_sld C hx hbl hbb (4 * t + 1) (nI_1 _) (by omega) hL dL_law_156 ?_
    refine x_i2l C dL_law_157 ?_
    refine x_bipush C 32 (by decide) dL_law_158 ?_
    refine x_lshl C dL_law_160 ?_
    refine x_aload_n C dL_law_161 rfl ?_
    refine x_iload C dL_law_162 rfl ?_
    refine x_iconst C 2 (by decide) dL_law_164 ?_
    refine x_iadd C dL_law_165 ?_
    refine x_sld C hx hbl hbb (4 * t + 2) (ix2 _) (by omega) hL dL_law_166 ?_
    refine x_i2l C dL_law_167 ?_
    refine x_ldc2 C 4294967295 (gd_in (by decide +kernel) rfl) dL_law_168 ?_
    refine x_land C dL_law_171 ?_
    refine x_lor C dL_law_172 ?_
    refine x_cVS C (Sp := SIM (n + 1) ver) yo_X4_leaf m_L_27 rfl rfl (by first | assumption | exact Nat.one_pos) (hm) dL_law_173 rfl rfl (Nat.le_of_ble_eq_true rfl) ⟨by decide, by decide⟩ ⟨by show _ ≤ 601024; omega, by show _ ≤ 7293034; omega⟩ ?_
    intro I2 J2 R2 hS2
    refine x_icmp_eq C 720 dL_law_176 (by decide) (fun h176 => ?_) (fun h176 => ?_)
    · skip
      exact x_widen (by omega) (by omega) (kk (n + 1) ver ad2 I2 J2 R2 hS2 (by omega))
    · skip
      exact absurd rfl h176

set_option maxRecDepth 100000 in
set_option maxHeartbeats 4000000 in
theorem lw_c1 (C : CX p s m args meth c cL_law 8 RL ret D dA base) (hX : XT s) (hV : XV base s) (hl : l.stackTraces = false) (hx : va_X b Ln xs s s.heap) (hbl : b < s.heap.size) (hbb : s.heap.size ≤ base) (hL : Ln ≤ 2048) (ht : 4 * t + 4 ≤ Ln) (hnc : nc + 5 ≤ 601024) (hns : ns + 47 ≤ 7293034) (hS : SIM n ver I J R) (hv : ver < 1000) (kk : ∀ (n2 ver2 : Nat) (ad2 : Fa) (I2 : Fi) (J2 : Fj) (R2 : Fr), SIM n2 ver2 I2 J2 R2 → ver2 ≤ ver + 1 → GX p l e room_1 s m args below meth c Q D dA base 8 ad2 (Nn n2) I2 J2 R2 (nc + 5) (ns + 47) 720 (Lw b ad2 t) []) : GX p l e room_1 s m args below meth c Q D dA base 8 ad (Nn n) I J R nc ns 181 (Lw b ad t) [] := by
  rcases op_key l D dA base n ver ad I J R hS (xs (4 * t + 1)) with h | ⟨h40, x, hc⟩
  · obtain ⟨x, I1, J1, R1, hc, hm⟩ := BO.s h
    refine x_aload_n C dL_law_181 rfl ?_
    refine x_aload_n C dL_law_182 rfl ?_
    refine x_iload C dL_law_183 rfl ?_
    refine x_iconst C 1 (by decide) dL_law_185 ?_
    refine x_iadd C dL_law_186 ?_
    refine x_sld C hx hbl hbb (4 * t + 1) (nI_1 _) (by omega) hL dL_law_187 ?_
    refine x_cV1 C yo_X3_key m_L_28 rfl rfl (by first | assumption | exact Nat.one_pos) (hc) dL_law_188 rfl rfl (Nat.le_of_ble_eq_true rfl) ⟨by decide, by decide⟩ ⟨by show _ ≤ 601024; omega, by show _ ≤ 7293034; omega⟩ ?_
    refine x_aload_n C dL_law_191 rfl ?_
    refine x_aload_n C dL_law_192 rfl ?_
    refine x_iload C dL_law_193 rfl ?_
    refine x_iconst C 1 (by decide) dL_law_195 ?_
    refine x_iadd C dL_law_196 ?_
    refine x_sld C hx hbl hbb (4 * t + 1) (nI_1 _) (by omega) hL dL_law_197 ?_
    refine x_cVS C (Sp := SIM n ver) yo_X4_key m_L_32 rfl rfl (by first | assumption | exact Nat.one_pos) (hm) dL_law_198 rfl rfl (Nat.le_of_ble_eq_true rfl) ⟨by decide, by decide⟩ ⟨by show _ ≤ 601024; omega, by show _ ≤ 7293034; omega⟩ ?_
    intro I2 J2 R2 hS2
    refine x_icmp_eq C 720 dL_law_201 (by decide) (fun h201 => ?_) (fun h201 => ?_)
    · skip
      exact x_widen (by omega) (by omega) (kk n ver ad I2 J2 R2 hS2 (by omega))
    · skip
      exact absurd rfl h201
  · skip
    refine x_aload_n C dL_law_181 rfl ?_
    refine x_aload_n C dL_law_182 rfl ?_
    refine x_iload C dL_law_183 rfl ?_
    refine x_iconst C 1 (by decide) dL_law_185 ?_
    refine x_iadd C dL_law_186 ?_
    refine x_sld C hx hbl hbb (4 * t + 1) (nI_1 _) (by omega) hL dL_law_187 ?_
    refine x_cVX C hX yo_X3_key m_L_28 rfl rfl (by first | assumption | exact Nat.one_pos) (hc) dL_law_188 rfl rfl (Nat.le_of_ble_eq_true rfl) ⟨by decide, by decide⟩ ⟨by show _ ≤ 601024; omega, by show _ ≤ 7293034; omega⟩ ?_
    intro ad2 I1 J1 R1 had hm
    have eL : Lw b ad t = Lw b ad2 t := by simp only [Lw, had 0 0 Nat.one_pos, had 11 0 Nat.one_pos, had 12 0 Nat.one_pos]
    rw [eL]
    refine x_aload_n C dL_law_191 rfl ?_
    refine x_aload_n C dL_law_192 rfl ?_
    refine x_iload C dL_law_193 rfl ?_
    refine x_iconst C 1 (by decide) dL_law_195 ?_
    refine x_iadd C dL_law_196 ?_
    refine x_sld C hx hbl hbb (4 * t + 1) (nI_1 _) (by omega) hL dL_law_197 ?_
    refine x_cVS C (Sp := SIM (n + 1) ver) yo_X4_key m_L_32 rfl rfl (by first | assumption | exact Nat.one_pos) (hm) dL_law_198 rfl rfl (Nat.le_of_ble_eq_true rfl) ⟨by decide, by decide⟩ ⟨by show _ ≤ 601024; omega, by show _ ≤ 7293034; omega⟩ ?_
    intro I2 J2 R2 hS2
    refine x_icmp_eq C 720 dL_law_201 (by decide) (fun h201 => ?_) (fun h201 => ?_)
    · skip
      exact x_widen (by omega) (by omega) (kk (n + 1) ver ad2 I2 J2 R2 hS2 (by omega))
    · skip
      exact absurd rfl h201

set_option maxRecDepth 100000 in
set_option maxHeartbeats 4000000 in
theorem lw_c2 (C : CX p s m args meth c cL_law 8 RL ret D dA base) (hX : XT s) (hV : XV base s) (hl : l.stackTraces = false) (hx : va_X b Ln xs s s.heap) (hbl : b < s.heap.size) (hbb : s.heap.size ≤ base) (hL : Ln ≤ 2048) (ht : 4 * t + 4 ≤ Ln) (hnc : nc + 5 ≤ 601024) (hns : ns + 47 ≤ 7293034) (hS : SIM n ver I J R) (hv : ver < 1000) (kk : ∀ (n2 ver2 : Nat) (ad2 : Fa) (I2 : Fi) (J2 : Fj) (R2 : Fr), SIM n2 ver2 I2 J2 R2 → ver2 ≤ ver + 1 → GX p l e room_1 s m args below meth c Q D dA base 8 ad2 (Nn n2) I2 J2 R2 (nc + 5) (ns + 47) 720 (Lw b ad2 t) []) : GX p l e room_1 s m args below meth c Q D dA base 8 ad (Nn n) I J R nc ns 206 (Lw b ad t) [] := by
  obtain ⟨ver2, hv2, x, I1, J1, R1, hc, hm⟩ : ∃ ver2, ver2 ≤ ver + 1 ∧ BOs l D dA base n ad I J R yX3_asks cX3_asks 5 (some .int) 5 yX4_asks cX4_asks 4 2 [.int (xs (4 * t + 1)), .int (xs (4 * t + 2))] ver2 := (op_asks l D dA base n ver ad I J R hS hv (xs (4 * t + 1)) (xs (4 * t + 2))).elim (fun h => ⟨ver, Nat.le_succ _, h⟩) (fun h => ⟨ver + 1, Nat.le_refl _, h⟩)
  refine x_aload_n C dL_law_206 rfl ?_
  refine x_aload_n C dL_law_207 rfl ?_
  refine x_iload C dL_law_208 rfl ?_
  refine x_iconst C 1 (by decide) dL_law_210 ?_
  refine x_iadd C dL_law_211 ?_
  refine x_sld C hx hbl hbb (4 * t + 1) (nI_1 _) (by omega) hL dL_law_212 ?_
  refine x_aload_n C dL_law_213 rfl ?_
  refine x_iload C dL_law_214 rfl ?_
  refine x_iconst C 2 (by decide) dL_law_216 ?_
  refine x_iadd C dL_law_217 ?_
  refine x_sld C hx hbl hbb (4 * t + 2) (ix2 _) (by omega) hL dL_law_218 ?_
  refine x_cV1 C yo_X3_asks m_L_33 rfl rfl (by first | assumption | exact Nat.one_pos) (hc) dL_law_219 rfl rfl (Nat.le_of_ble_eq_true rfl) ⟨by decide, by decide⟩ ⟨by show _ ≤ 601024; omega, by show _ ≤ 7293034; omega⟩ ?_
  refine x_aload_n C dL_law_222 rfl ?_
  refine x_aload_n C dL_law_223 rfl ?_
  refine x_iload C dL_law_224 rfl ?_
  refine x_iconst C 1 (by decide) dL_law_226 ?_
  refine x_iadd C dL_law_227 ?_
  refine x_sld C hx hbl hbb (4 * t + 1) (nI_1 _) (by omega) hL dL_law_228 ?_
  refine x_aload_n C dL_law_229 rfl ?_
  refine x_iload C dL_law_230 rfl ?_
  refine x_iconst C 2 (by decide) dL_law_232 ?_
  refine x_iadd C dL_law_233 ?_
  refine x_sld C hx hbl hbb (4 * t + 2) (ix2 _) (by omega) hL dL_law_234 ?_
  refine x_cVS C (Sp := SIM n ver2) yo_X4_asks m_L_37 rfl rfl (by first | assumption | exact Nat.one_pos) (hm) dL_law_235 rfl rfl (Nat.le_of_ble_eq_true rfl) ⟨by decide, by decide⟩ ⟨by show _ ≤ 601024; omega, by show _ ≤ 7293034; omega⟩ ?_
  intro I2 J2 R2 hS2
  refine x_icmp_eq C 720 dL_law_238 (by decide) (fun h238 => ?_) (fun h238 => ?_)
  · skip
    exact x_widen (by omega) (by omega) (kk n ver2 ad I2 J2 R2 hS2 hv2)
  · skip
    exact absurd rfl h238

set_option maxRecDepth 100000 in
set_option maxHeartbeats 4000000 in
theorem lw_c3 (C : CX p s m args meth c cL_law 8 RL ret D dA base) (hX : XT s) (hV : XV base s) (hl : l.stackTraces = false) (hx : va_X b Ln xs s s.heap) (hbl : b < s.heap.size) (hbb : s.heap.size ≤ base) (hL : Ln ≤ 2048) (ht : 4 * t + 4 ≤ Ln) (hnc : nc + 5 ≤ 601024) (hns : ns + 47 ≤ 7293034) (hS : SIM n ver I J R) (hv : ver < 1000) (kk : ∀ (n2 ver2 : Nat) (ad2 : Fa) (I2 : Fi) (J2 : Fj) (R2 : Fr), SIM n2 ver2 I2 J2 R2 → ver2 ≤ ver + 1 → GX p l e room_1 s m args below meth c Q D dA base 8 ad2 (Nn n2) I2 J2 R2 (nc + 5) (ns + 47) 720 (Lw b ad2 t) []) : GX p l e room_1 s m args below meth c Q D dA base 8 ad (Nn n) I J R nc ns 243 (Lw b ad t) [] := by
  obtain ⟨ver2, hv2, x, I1, J1, R1, hc, hm⟩ : ∃ ver2, ver2 ≤ ver + 1 ∧ BOs l D dA base n ad I J R yX3_ring cX3_ring 2 (some .int) 0 yX4_ring cX4_ring 2 0 [.int (xs (4 * t + 1))] ver2 := ⟨ver, Nat.le_succ _, BO.s (op_ring l D dA base n ver ad I J R hS (xs (4 * t + 1)))⟩
  refine x_aload_n C dL_law_243 rfl ?_
  refine x_aload_n C dL_law_244 rfl ?_
  refine x_iload C dL_law_245 rfl ?_
  refine x_iconst C 1 (by decide) dL_law_247 ?_
  refine x_iadd C dL_law_248 ?_
  refine x_sld C hx hbl hbb (4 * t + 1) (nI_1 _) (by omega) hL dL_law_249 ?_
  refine x_cV1 C yo_X3_ring m_L_38 rfl rfl (by first | assumption | exact Nat.one_pos) (hc) dL_law_250 rfl rfl (Nat.le_of_ble_eq_true rfl) ⟨by decide, by decide⟩ ⟨by show _ ≤ 601024; omega, by show _ ≤ 7293034; omega⟩ ?_
  refine x_aload_n C dL_law_253 rfl ?_
  refine x_aload_n C dL_law_254 rfl ?_
  refine x_iload C dL_law_255 rfl ?_
  refine x_iconst C 1 (by decide) dL_law_257 ?_
  refine x_iadd C dL_law_258 ?_
  refine x_sld C hx hbl hbb (4 * t + 1) (nI_1 _) (by omega) hL dL_law_259 ?_
  refine x_cVS C (Sp := SIM n ver2) yo_X4_ring m_L_41 rfl rfl (by first | assumption | exact Nat.one_pos) (hm) dL_law_260 rfl rfl (Nat.le_of_ble_eq_true rfl) ⟨by decide, by decide⟩ ⟨by show _ ≤ 601024; omega, by show _ ≤ 7293034; omega⟩ ?_
  intro I2 J2 R2 hS2
  refine x_icmp_eq C 720 dL_law_263 (by decide) (fun h263 => ?_) (fun h263 => ?_)
  · skip
    exact x_widen (by omega) (by omega) (kk n ver2 ad I2 J2 R2 hS2 hv2)
  · skip
    exact absurd rfl h263

set_option maxRecDepth 100000 in
set_option maxHeartbeats 4000000 in
theorem lw_c4 (C : CX p s m args meth c cL_law 8 RL ret D dA base) (hX : XT s) (hV : XV base s) (hl : l.stackTraces = false) (hx : va_X b Ln xs s s.heap) (hbl : b < s.heap.size) (hbb : s.heap.size ≤ base) (hL : Ln ≤ 2048) (ht : 4 * t + 4 ≤ Ln) (hnc : nc + 5 ≤ 601024) (hns : ns + 47 ≤ 7293034) (hS : SIM n ver I J R) (hv : ver < 1000) (kk : ∀ (n2 ver2 : Nat) (ad2 : Fa) (I2 : Fi) (J2 : Fj) (R2 : Fr), SIM n2 ver2 I2 J2 R2 → ver2 ≤ ver + 1 → GX p l e room_1 s m args below meth c Q D dA base 8 ad2 (Nn n2) I2 J2 R2 (nc + 5) (ns + 47) 720 (Lw b ad2 t) []) : GX p l e room_1 s m args below meth c Q D dA base 8 ad (Nn n) I J R nc ns 268 (Lw b ad t) [] := by
  obtain ⟨ver2, hv2, x, I1, J1, R1, hc, hm⟩ : ∃ ver2, ver2 ≤ ver + 1 ∧ BOs l D dA base n ad I J R yX3_change cX3_change 5 (some .int) 5 yX4_change cX4_change 4 2 [.int (xs (4 * t + 1)), .long (((xs (4 * t + 2)).toInt64 <<< ((32 : Int32).toInt64 &&& 63)) ||| ((xs (4 * t + 3)).toInt64 &&& 4294967295))] ver2 := (op_change l D dA base n ver ad I J R hS hv (xs (4 * t + 1)) (((xs (4 * t + 2)).toInt64 <<< ((32 : Int32).toInt64 &&& 63)) ||| ((xs (4 * t + 3)).toInt64 &&& 4294967295))).elim (fun h => ⟨ver, Nat.le_succ _, BO.s h⟩) (fun h => ⟨ver + 1, Nat.le_refl _, BO.s h⟩)
  refine x_aload_n C dL_law_268 rfl ?_
  refine x_aload_n C dL_law_269 rfl ?_
  refine x_iload C dL_law_270 rfl ?_
  refine x_iconst C 1 (by decide) dL_law_272 ?_
  refine x_iadd C dL_law_273 ?_
  refine x_sld C hx hbl hbb (4 * t + 1) (nI_1 _) (by omega) hL dL_law_274 ?_
  refine x_aload_n C dL_law_275 rfl ?_
  refine x_iload C dL_law_276 rfl ?_
  refine x_iconst C 2 (by decide) dL_law_278 ?_
  refine x_iadd C dL_law_279 ?_
  refine x_sld C hx hbl hbb (4 * t + 2) (ix2 _) (by omega) hL dL_law_280 ?_
  refine x_i2l C dL_law_281 ?_
  refine x_bipush C 32 (by decide) dL_law_282 ?_
  refine x_lshl C dL_law_284 ?_
  refine x_aload_n C dL_law_285 rfl ?_
  refine x_iload C dL_law_286 rfl ?_
  refine x_iconst C 3 (by decide) dL_law_288 ?_
  refine x_iadd C dL_law_289 ?_
  refine x_sld C hx hbl hbb (4 * t + 3) (ix3 _) (by omega) hL dL_law_290 ?_
  refine x_i2l C dL_law_291 ?_
  refine x_ldc2 C 4294967295 (gd_in (by decide +kernel) rfl) dL_law_292 ?_
  refine x_land C dL_law_295 ?_
  refine x_lor C dL_law_296 ?_
  refine x_cV1 C yo_X3_change m_L_42 rfl rfl (by first | assumption | exact Nat.one_pos) (hc) dL_law_297 rfl rfl (Nat.le_of_ble_eq_true rfl) ⟨by decide, by decide⟩ ⟨by show _ ≤ 601024; omega, by show _ ≤ 7293034; omega⟩ ?_
  refine x_aload_n C dL_law_300 rfl ?_
  refine x_aload_n C dL_law_301 rfl ?_
  refine x_iload C dL_law_302 rfl ?_
  refine x_iconst C 1 (by decide) dL_law_304 ?_
  refine x_iadd C dL_law_305 ?_
  refine x_sld C hx hbl hbb (4 * t + 1) (nI_1 _) (by omega) hL dL_law_306 ?_
  refine x_aload_n C dL_law_307 rfl ?_
  refine x_iload C dL_law_308 rfl ?_
  refine x_iconst C 2 (by decide) dL_law_310 ?_
  refine x_iadd C dL_law_311 ?_
  refine x_sld C hx hbl hbb (4 * t + 2) (ix2 _) (by omega) hL dL_law_312 ?_
  refine x_i2l C dL_law_313 ?_
  refine x_bipush C 32 (by decide) dL_law_314 ?_
  refine x_lshl C dL_law_316 ?_
  refine x_aload_n C dL_law_317 rfl ?_
  refine x_iload C dL_law_318 rfl ?_
  refine x_iconst C 3 (by decide) dL_law_320 ?_
  refine x_iadd C dL_law_321 ?_
  refine x_sld C hx hbl hbb (4 * t + 3) (ix3 _) (by omega) hL dL_law_322 ?_
  refine x_i2l C dL_law_323 ?_
  refine x_ldc2 C 4294967295 (gd_in (by decide +kernel) rfl) dL_law_324 ?_
  refine x_land C dL_law_327 ?_
  refine x_lor C dL_law_328 ?_
  refine x_cVS C (Sp := SIM n ver2) yo_X4_change m_L_46 rfl rfl (by first | assumption | exact Nat.one_pos) (hm) dL_law_329 rfl rfl (Nat.le_of_ble_eq_true rfl) ⟨by decide, by decide⟩ ⟨by show _ ≤ 601024; omega, by show _ ≤ 7293034; omega⟩ ?_
  intro I2 J2 R2 hS2
  refine x_icmp_eq C 720 dL_law_332 (by decide) (fun h332 => ?_) (fun h332 => ?_)
  · skip
    exact x_widen (by omega) (by omega) (kk n ver2 ad I2 J2 R2 hS2 hv2)
  · skip
    exact absurd rfl h332

set_option maxRecDepth 100000 in
set_option maxHeartbeats 4000000 in
theorem lw_c5 (C : CX p s m args meth c cL_law 8 RL ret D dA base) (hX : XT s) (hV : XV base s) (hl : l.stackTraces = false) (hx : va_X b Ln xs s s.heap) (hbl : b < s.heap.size) (hbb : s.heap.size ≤ base) (hL : Ln ≤ 2048) (ht : 4 * t + 4 ≤ Ln) (hnc : nc + 5 ≤ 601024) (hns : ns + 47 ≤ 7293034) (hS : SIM n ver I J R) (hv : ver < 1000) (kk : ∀ (n2 ver2 : Nat) (ad2 : Fa) (I2 : Fi) (J2 : Fj) (R2 : Fr), SIM n2 ver2 I2 J2 R2 → ver2 ≤ ver + 1 → GX p l e room_1 s m args below meth c Q D dA base 8 ad2 (Nn n2) I2 J2 R2 (nc + 5) (ns + 47) 720 (Lw b ad2 t) []) : GX p l e room_1 s m args below meth c Q D dA base 8 ad (Nn n) I J R nc ns 337 (Lw b ad t) [] := by
  refine x_aload_n C dL_law_337 rfl ?_
  refine x_aload_n C dL_law_338 rfl ?_
  refine x_iload C dL_law_339 rfl ?_
  refine x_iconst C 1 (by decide) dL_law_341 ?_
  refine x_iadd C dL_law_342 ?_
  refine x_sld C hx hbl hbb (4 * t + 1) (nI_1 _) (by omega) hL dL_law_343 ?_
  refine x_aload_n C dL_law_344 rfl ?_
  refine x_iload C dL_law_345 rfl ?_
  refine x_iconst C 2 (by decide) dL_law_347 ?_
  refine x_iadd C dL_law_348 ?_
  refine x_sld C hx hbl hbb (4 * t + 2) (ix2 _) (by omega) hL dL_law_349 ?_
  refine x_if_eq C 357 dL_law_350 (by decide) (fun h350 => ?_) (fun h350 => ?_)
  · skip
    refine x_iconst C 0 (by decide) dL_law_357 ?_
    obtain ⟨ver2, hv2, x, I1, J1, R1, hc, hm⟩ : ∃ ver2, ver2 ≤ ver + 1 ∧ BOs l D dA base n ad I J R yX3_spoil cX3_spoil 4 (some .int) 5 yX4_spoil cX4_spoil 3 2 [.int (xs (4 * t + 1)), .int 0] ver2 := (op_spoil l D dA base n ver ad I J R hS hv (xs (4 * t + 1)) 0 (Or.inl rfl)).elim (fun h => ⟨ver, Nat.le_succ _, BO.s h⟩) (fun h => ⟨ver + 1, Nat.le_refl _, BO.s h⟩)
    refine x_cV1 C yo_X3_spoil m_L_47 rfl rfl (by first | assumption | exact Nat.one_pos) (hc) dL_law_358 rfl rfl (Nat.le_of_ble_eq_true rfl) ⟨by decide, by decide⟩ ⟨by show _ ≤ 601024; omega, by show _ ≤ 7293034; omega⟩ ?_
    refine x_aload_n C dL_law_361 rfl ?_
    refine x_aload_n C dL_law_362 rfl ?_
    refine x_iload C dL_law_363 rfl ?_
    refine x_iconst C 1 (by decide) dL_law_365 ?_
    refine x_iadd C dL_law_366 ?_
    refine x_sld C hx hbl hbb (4 * t + 1) (nI_1 _) (by omega) hL dL_law_367 ?_
    refine x_aload_n C dL_law_368 rfl ?_
    refine x_iload C dL_law_369 rfl ?_
    refine x_iconst C 2 (by decide) dL_law_371 ?_
    refine x_iadd C dL_law_372 ?_
    refine x_sld C hx hbl hbb (4 * t + 2) (ix2 _) (by omega) hL dL_law_373 ?_
    refine x_if_eq C 381 dL_law_374 (by decide) (fun h374 => ?_) (fun h374 => ?_)
    · skip
      refine x_iconst C 0 (by decide) dL_law_381 ?_
      refine x_cVS C (Sp := SIM n ver2) yo_X4_spoil m_L_51 rfl rfl (by first | assumption | exact Nat.one_pos) (hm) dL_law_382 rfl rfl (Nat.le_of_ble_eq_true rfl) ⟨by decide, by decide⟩ ⟨by show _ ≤ 601024; omega, by show _ ≤ 7293034; omega⟩ ?_
      intro I2 J2 R2 hS2
      refine x_icmp_eq C 720 dL_law_385 (by decide) (fun h385 => ?_) (fun h385 => ?_)
      · skip
        exact x_widen (by omega) (by omega) (kk n ver2 ad I2 J2 R2 hS2 hv2)
      · skip
        exact absurd rfl h385
    · skip
      exact absurd h350 h374
  · skip
    refine x_iconst C 1 (by decide) dL_law_353 ?_
    refine x_goto C 358 dL_law_354 (by decide) ?_
    obtain ⟨ver2, hv2, x, I1, J1, R1, hc, hm⟩ : ∃ ver2, ver2 ≤ ver + 1 ∧ BOs l D dA base n ad I J R yX3_spoil cX3_spoil 4 (some .int) 5 yX4_spoil cX4_spoil 3 2 [.int (xs (4 * t + 1)), .int 1] ver2 := (op_spoil l D dA base n ver ad I J R hS hv (xs (4 * t + 1)) 1 (Or.inr rfl)).elim (fun h => ⟨ver, Nat.le_succ _, BO.s h⟩) (fun h => ⟨ver + 1, Nat.le_refl _, BO.s h⟩)
    refine x_cV1 C yo_X3_spoil m_L_47 rfl rfl (by first | assumption | exact Nat.one_pos) (hc) dL_law_358 rfl rfl (Nat.le_of_ble_eq_true rfl) ⟨by decide, by decide⟩ ⟨by show _ ≤ 601024; omega, by show _ ≤ 7293034; omega⟩ ?_
    refine x_aload_n C dL_law_361 rfl ?_
    refine x_aload_n C dL_law_362 rfl ?_
    refine x_iload C dL_law_363 rfl ?_
    refine x_iconst C 1 (by decide) dL_law_365 ?_
    refine x_iadd C dL_law_366 ?_
    refine x_sld C hx hbl hbb (4 * t + 1) (nI_1 _) (by omega) hL dL_law_367 ?_
    refine x_aload_n C dL_law_368 rfl ?_
    refine x_iload C dL_law_369 rfl ?_
    refine x_iconst C 2 (by decide) dL_law_371 ?_
    refine x_iadd C dL_law_372 ?_
    refine x_sld C hx hbl hbb (4 * t + 2) (ix2 _) (by omega) hL dL_law_373 ?_
    refine x_if_eq C 381 dL_law_374 (by decide) (fun h374 => ?_) (fun h374 => ?_)
    · skip
      exact absurd h374 h350
    · skip
      refine x_iconst C 1 (by decide) dL_law_377 ?_
      refine x_goto C 382 dL_law_378 (by decide) ?_
      refine x_cVS C (Sp := SIM n ver2) yo_X4_spoil m_L_51 rfl rfl (by first | assumption | exact Nat.one_pos) (hm) dL_law_382 rfl rfl (Nat.le_of_ble_eq_true rfl) ⟨by decide, by decide⟩ ⟨by show _ ≤ 601024; omega, by show _ ≤ 7293034; omega⟩ ?_
      intro I2 J2 R2 hS2
      refine x_icmp_eq C 720 dL_law_385 (by decide) (fun h385 => ?_) (fun h385 => ?_)
      · skip
        exact x_widen (by omega) (by omega) (kk n ver2 ad I2 J2 R2 hS2 hv2)
      · skip
        exact absurd rfl h385

set_option maxRecDepth 100000 in
set_option maxHeartbeats 4000000 in
theorem lw_c6 (C : CX p s m args meth c cL_law 8 RL ret D dA base) (hX : XT s) (hV : XV base s) (hl : l.stackTraces = false) (hx : va_X b Ln xs s s.heap) (hbl : b < s.heap.size) (hbb : s.heap.size ≤ base) (hL : Ln ≤ 2048) (ht : 4 * t + 4 ≤ Ln) (hnc : nc + 5 ≤ 601024) (hns : ns + 47 ≤ 7293034) (hS : SIM n ver I J R) (hv : ver < 1000) (kk : ∀ (n2 ver2 : Nat) (ad2 : Fa) (I2 : Fi) (J2 : Fj) (R2 : Fr), SIM n2 ver2 I2 J2 R2 → ver2 ≤ ver + 1 → GX p l e room_1 s m args below meth c Q D dA base 8 ad2 (Nn n2) I2 J2 R2 (nc + 5) (ns + 47) 720 (Lw b ad2 t) []) : GX p l e room_1 s m args below meth c Q D dA base 8 ad (Nn n) I J R nc ns 390 (Lw b ad t) [] := by
  obtain ⟨ver2, hv2, x, I1, J1, R1, hc, hm⟩ : ∃ ver2, ver2 ≤ ver + 1 ∧ BOs l D dA base n ad I J R yX3_begin cX3_begin 4 (some .int) 3 yX4_begin cX4_begin 3 1 [.int (xs (4 * t + 1)), .int (xs (4 * t + 2))] ver2 := ⟨ver, Nat.le_succ _, BO.s (op_begin l D dA base n ver ad I J R hS (xs (4 * t + 1)) (xs (4 * t + 2)))⟩
  refine x_aload_n C dL_law_390 rfl ?_
  refine x_aload_n C dL_law_391 rfl ?_
  refine x_iload C dL_law_392 rfl ?_
  refine x_iconst C 1 (by decide) dL_law_394 ?_
  refine x_iadd C dL_law_395 ?_
  refine x_sld C hx hbl hbb (4 * t + 1) (nI_1 _) (by omega) hL dL_law_396 ?_
  refine x_aload_n C dL_law_397 rfl ?_
  refine x_iload C dL_law_398 rfl ?_
  refine x_iconst C 2 (by decide) dL_law_400 ?_
  refine x_iadd C dL_law_401 ?_
  refine x_sld C hx hbl hbb (4 * t + 2) (ix2 _) (by omega) hL dL_law_402 ?_
  refine x_cV1 C yo_X3_begin m_L_52 rfl rfl (by first | assumption | exact Nat.one_pos) (hc) dL_law_403 rfl rfl (Nat.le_of_ble_eq_true rfl) ⟨by decide, by decide⟩ ⟨by show _ ≤ 601024; omega, by show _ ≤ 7293034; omega⟩ ?_
  refine x_aload_n C dL_law_406 rfl ?_
  refine x_aload_n C dL_law_407 rfl ?_
  refine x_iload C dL_law_408 rfl ?_
  refine x_iconst C 1 (by decide) dL_law_410 ?_
  refine x_iadd C dL_law_411 ?_
  refine x_sld C hx hbl hbb (4 * t + 1) (nI_1 _) (by omega) hL dL_law_412 ?_
  refine x_aload_n C dL_law_413 rfl ?_
  refine x_iload C dL_law_414 rfl ?_
  refine x_iconst C 2 (by decide) dL_law_416 ?_
  refine x_iadd C dL_law_417 ?_
  refine x_sld C hx hbl hbb (4 * t + 2) (ix2 _) (by omega) hL dL_law_418 ?_
  refine x_cVS C (Sp := SIM n ver2) yo_X4_begin m_L_55 rfl rfl (by first | assumption | exact Nat.one_pos) (hm) dL_law_419 rfl rfl (Nat.le_of_ble_eq_true rfl) ⟨by decide, by decide⟩ ⟨by show _ ≤ 601024; omega, by show _ ≤ 7293034; omega⟩ ?_
  intro I2 J2 R2 hS2
  refine x_icmp_eq C 720 dL_law_422 (by decide) (fun h422 => ?_) (fun h422 => ?_)
  · skip
    exact x_widen (by omega) (by omega) (kk n ver2 ad I2 J2 R2 hS2 hv2)
  · skip
    exact absurd rfl h422

set_option maxRecDepth 100000 in
set_option maxHeartbeats 4000000 in
theorem lw_c7 (C : CX p s m args meth c cL_law 8 RL ret D dA base) (hX : XT s) (hV : XV base s) (hl : l.stackTraces = false) (hx : va_X b Ln xs s s.heap) (hbl : b < s.heap.size) (hbb : s.heap.size ≤ base) (hL : Ln ≤ 2048) (ht : 4 * t + 4 ≤ Ln) (hnc : nc + 5 ≤ 601024) (hns : ns + 47 ≤ 7293034) (hS : SIM n ver I J R) (hv : ver < 1000) (kk : ∀ (n2 ver2 : Nat) (ad2 : Fa) (I2 : Fi) (J2 : Fj) (R2 : Fr), SIM n2 ver2 I2 J2 R2 → ver2 ≤ ver + 1 → GX p l e room_1 s m args below meth c Q D dA base 8 ad2 (Nn n2) I2 J2 R2 (nc + 5) (ns + 47) 720 (Lw b ad2 t) []) : GX p l e room_1 s m args below meth c Q D dA base 8 ad (Nn n) I J R nc ns 427 (Lw b ad t) [] := by
  obtain ⟨ver2, hv2, x, I1, J1, R1, hc, hm⟩ : ∃ ver2, ver2 ≤ ver + 1 ∧ BOs l D dA base n ad I J R yX3_step cX3_step 2 (some .int) 6 yX4_step cX4_step 2 4 [.int (xs (4 * t + 1))] ver2 := ⟨ver, Nat.le_succ _, BO.s (op_step l D dA base n ver ad I J R hS (xs (4 * t + 1)))⟩
  refine x_aload_n C dL_law_427 rfl ?_
  refine x_aload_n C dL_law_428 rfl ?_
  refine x_iload C dL_law_429 rfl ?_
  refine x_iconst C 1 (by decide) dL_law_431 ?_
  refine x_iadd C dL_law_432 ?_
  refine x_sld C hx hbl hbb (4 * t + 1) (nI_1 _) (by omega) hL dL_law_433 ?_
  refine x_cV1 C yo_X3_step m_L_56 rfl rfl (by first | assumption | exact Nat.one_pos) (hc) dL_law_434 rfl rfl (Nat.le_of_ble_eq_true rfl) ⟨by decide, by decide⟩ ⟨by show _ ≤ 601024; omega, by show _ ≤ 7293034; omega⟩ ?_
  refine x_aload_n C dL_law_437 rfl ?_
  refine x_aload_n C dL_law_438 rfl ?_
  refine x_iload C dL_law_439 rfl ?_
  refine x_iconst C 1 (by decide) dL_law_441 ?_
  refine x_iadd C dL_law_442 ?_
  refine x_sld C hx hbl hbb (4 * t + 1) (nI_1 _) (by omega) hL dL_law_443 ?_
  refine x_cVS C (Sp := SIM n ver2) yo_X4_step m_L_59 rfl rfl (by first | assumption | exact Nat.one_pos) (hm) dL_law_444 rfl rfl (Nat.le_of_ble_eq_true rfl) ⟨by decide, by decide⟩ ⟨by show _ ≤ 601024; omega, by show _ ≤ 7293034; omega⟩ ?_
  intro I2 J2 R2 hS2
  refine x_icmp_eq C 720 dL_law_447 (by decide) (fun h447 => ?_) (fun h447 => ?_)
  · skip
    exact x_widen (by omega) (by omega) (kk n ver2 ad I2 J2 R2 hS2 hv2)
  · skip
    exact absurd rfl h447

set_option maxRecDepth 100000 in
set_option maxHeartbeats 4000000 in
theorem lw_c8 (C : CX p s m args meth c cL_law 8 RL ret D dA base) (hX : XT s) (hV : XV base s) (hl : l.stackTraces = false) (hx : va_X b Ln xs s s.heap) (hbl : b < s.heap.size) (hbb : s.heap.size ≤ base) (hL : Ln ≤ 2048) (ht : 4 * t + 4 ≤ Ln) (hnc : nc + 5 ≤ 601024) (hns : ns + 47 ≤ 7293034) (hS : SIM n ver I J R) (hv : ver < 1000) (kk : ∀ (n2 ver2 : Nat) (ad2 : Fa) (I2 : Fi) (J2 : Fj) (R2 : Fr), SIM n2 ver2 I2 J2 R2 → ver2 ≤ ver + 1 → GX p l e room_1 s m args below meth c Q D dA base 8 ad2 (Nn n2) I2 J2 R2 (nc + 5) (ns + 47) 720 (Lw b ad2 t) []) : GX p l e room_1 s m args below meth c Q D dA base 8 ad (Nn n) I J R nc ns 452 (Lw b ad t) [] := by
  obtain ⟨ver2, hv2, x, I1, J1, R1, hc, hm⟩ : ∃ ver2, ver2 ≤ ver + 1 ∧ BOs l D dA base n ad I J R yX3_cancel cX3_cancel 1 (some .int) 4 yX4_cancel cX4_cancel 1 1 [] ver2 := ⟨ver, Nat.le_succ _, BO.s (op_cancel l D dA base n ver ad I J R hS )⟩
  refine x_aload_n C dL_law_452 rfl ?_
  refine x_cV1 C yo_X3_cancel m_L_60 rfl rfl (by first | assumption | exact Nat.one_pos) (hc) dL_law_453 rfl rfl (Nat.le_of_ble_eq_true rfl) ⟨by decide, by decide⟩ ⟨by show _ ≤ 601024; omega, by show _ ≤ 7293034; omega⟩ ?_
  refine x_aload_n C dL_law_456 rfl ?_
  refine x_cVS C (Sp := SIM n ver2) yo_X4_cancel m_L_64 rfl rfl (by first | assumption | exact Nat.one_pos) (hm) dL_law_457 rfl rfl (Nat.le_of_ble_eq_true rfl) ⟨by decide, by decide⟩ ⟨by show _ ≤ 601024; omega, by show _ ≤ 7293034; omega⟩ ?_
  intro I2 J2 R2 hS2
  refine x_icmp_eq C 720 dL_law_460 (by decide) (fun h460 => ?_) (fun h460 => ?_)
  · skip
    exact x_widen (by omega) (by omega) (kk n ver2 ad I2 J2 R2 hS2 hv2)
  · skip
    exact absurd rfl h460

set_option maxRecDepth 100000 in
set_option maxHeartbeats 4000000 in
theorem lw_c9 (C : CX p s m args meth c cL_law 8 RL ret D dA base) (hX : XT s) (hV : XV base s) (hl : l.stackTraces = false) (hx : va_X b Ln xs s s.heap) (hbl : b < s.heap.size) (hbb : s.heap.size ≤ base) (hL : Ln ≤ 2048) (ht : 4 * t + 4 ≤ Ln) (hnc : nc + 5 ≤ 601024) (hns : ns + 47 ≤ 7293034) (hS : SIM n ver I J R) (hv : ver < 1000) (kk : ∀ (n2 ver2 : Nat) (ad2 : Fa) (I2 : Fi) (J2 : Fj) (R2 : Fr), SIM n2 ver2 I2 J2 R2 → ver2 ≤ ver + 1 → GX p l e room_1 s m args below meth c Q D dA base 8 ad2 (Nn n2) I2 J2 R2 (nc + 5) (ns + 47) 720 (Lw b ad2 t) []) : GX p l e room_1 s m args below meth c Q D dA base 8 ad (Nn n) I J R nc ns 465 (Lw b ad t) [] := by
  obtain ⟨ver2, hv2, x, I1, J1, R1, hc, hm⟩ : ∃ ver2, ver2 ≤ ver + 1 ∧ BOs l D dA base n ad I J R yX3_run cX3_run 3 (some .int) 7 yX4_run cX4_run 3 4 [.int (xs (4 * t + 1))] ver2 := ⟨ver, Nat.le_succ _, BO.s (op_run l D dA base n ver ad I J R hS (xs (4 * t + 1)))⟩
  refine x_aload_n C dL_law_465 rfl ?_
  refine x_aload_n C dL_law_466 rfl ?_
  refine x_iload C dL_law_467 rfl ?_
  refine x_iconst C 1 (by decide) dL_law_469 ?_
  refine x_iadd C dL_law_470 ?_
  refine x_sld C hx hbl hbb (4 * t + 1) (nI_1 _) (by omega) hL dL_law_471 ?_
  refine x_cV1 C yo_X3_run m_L_65 rfl rfl (by first | assumption | exact Nat.one_pos) (hc) dL_law_472 rfl rfl (Nat.le_of_ble_eq_true rfl) ⟨by decide, by decide⟩ ⟨by show _ ≤ 601024; omega, by show _ ≤ 7293034; omega⟩ ?_
  refine x_aload_n C dL_law_475 rfl ?_
  refine x_aload_n C dL_law_476 rfl ?_
  refine x_iload C dL_law_477 rfl ?_
  refine x_iconst C 1 (by decide) dL_law_479 ?_
  refine x_iadd C dL_law_480 ?_
  refine x_sld C hx hbl hbb (4 * t + 1) (nI_1 _) (by omega) hL dL_law_481 ?_
  refine x_cVS C (Sp := SIM n ver2) yo_X4_run m_L_68 rfl rfl (by first | assumption | exact Nat.one_pos) (hm) dL_law_482 rfl rfl (Nat.le_of_ble_eq_true rfl) ⟨by decide, by decide⟩ ⟨by show _ ≤ 601024; omega, by show _ ≤ 7293034; omega⟩ ?_
  intro I2 J2 R2 hS2
  refine x_icmp_eq C 720 dL_law_485 (by decide) (fun h485 => ?_) (fun h485 => ?_)
  · skip
    exact x_widen (by omega) (by omega) (kk n ver2 ad I2 J2 R2 hS2 hv2)
  · skip
    exact absurd rfl h485

set_option maxRecDepth 100000 in
set_option maxHeartbeats 4000000 in
theorem lw_c10 (C : CX p s m args meth c cL_law 8 RL ret D dA base) (hX : XT s) (hV : XV base s) (hl : l.stackTraces = false) (hx : va_X b Ln xs s s.heap) (hbl : b < s.heap.size) (hbb : s.heap.size ≤ base) (hL : Ln ≤ 2048) (ht : 4 * t + 4 ≤ Ln) (hnc : nc + 5 ≤ 601024) (hns : ns + 47 ≤ 7293034) (hS : SIM n ver I J R) (hv : ver < 1000) (kk : ∀ (n2 ver2 : Nat) (ad2 : Fa) (I2 : Fi) (J2 : Fj) (R2 : Fr), SIM n2 ver2 I2 J2 R2 → ver2 ≤ ver + 1 → GX p l e room_1 s m args below meth c Q D dA base 8 ad2 (Nn n2) I2 J2 R2 (nc + 5) (ns + 47) 720 (Lw b ad2 t) []) : GX p l e room_1 s m args below meth c Q D dA base 8 ad (Nn n) I J R nc ns 490 (Lw b ad t) [] := by
  obtain ⟨ver2, hv2, x, I1, J1, R1, hc, hm⟩ : ∃ ver2, ver2 ≤ ver + 1 ∧ BOs l D dA base n ad I J R yX3_state cX3_state 3 (some .int) 2 yX4_state cX4_state 2 1 [.int (xs (4 * t + 1))] ver2 := ⟨ver, Nat.le_succ _, BO.s (op_state l D dA base n ver ad I J R hS (xs (4 * t + 1)))⟩
  refine x_aload_n C dL_law_490 rfl ?_
  refine x_aload_n C dL_law_491 rfl ?_
  refine x_iload C dL_law_492 rfl ?_
  refine x_iconst C 1 (by decide) dL_law_494 ?_
  refine x_iadd C dL_law_495 ?_
  refine x_sld C hx hbl hbb (4 * t + 1) (nI_1 _) (by omega) hL dL_law_496 ?_
  refine x_cV1 C yo_X3_state m_L_69 rfl rfl (by first | assumption | exact Nat.one_pos) (hc) dL_law_497 rfl rfl (Nat.le_of_ble_eq_true rfl) ⟨by decide, by decide⟩ ⟨by show _ ≤ 601024; omega, by show _ ≤ 7293034; omega⟩ ?_
  refine x_aload_n C dL_law_500 rfl ?_
  refine x_aload_n C dL_law_501 rfl ?_
  refine x_iload C dL_law_502 rfl ?_
  refine x_iconst C 1 (by decide) dL_law_504 ?_
  refine x_iadd C dL_law_505 ?_
  refine x_sld C hx hbl hbb (4 * t + 1) (nI_1 _) (by omega) hL dL_law_506 ?_
  refine x_cVS C (Sp := SIM n ver2) yo_X4_state m_L_72 rfl rfl (by first | assumption | exact Nat.one_pos) (hm) dL_law_507 rfl rfl (Nat.le_of_ble_eq_true rfl) ⟨by decide, by decide⟩ ⟨by show _ ≤ 601024; omega, by show _ ≤ 7293034; omega⟩ ?_
  intro I2 J2 R2 hS2
  refine x_icmp_eq C 720 dL_law_510 (by decide) (fun h510 => ?_) (fun h510 => ?_)
  · skip
    exact x_widen (by omega) (by omega) (kk n ver2 ad I2 J2 R2 hS2 hv2)
  · skip
    exact absurd rfl h510

set_option maxRecDepth 100000 in
set_option maxHeartbeats 4000000 in
theorem lw_c12 (C : CX p s m args meth c cL_law 8 RL ret D dA base) (hX : XT s) (hV : XV base s) (hl : l.stackTraces = false) (hx : va_X b Ln xs s s.heap) (hbl : b < s.heap.size) (hbb : s.heap.size ≤ base) (hL : Ln ≤ 2048) (ht : 4 * t + 4 ≤ Ln) (hnc : nc + 5 ≤ 601024) (hns : ns + 47 ≤ 7293034) (hS : SIM n ver I J R) (hv : ver < 1000) (kk : ∀ (n2 ver2 : Nat) (ad2 : Fa) (I2 : Fi) (J2 : Fj) (R2 : Fr), SIM n2 ver2 I2 J2 R2 → ver2 ≤ ver + 1 → GX p l e room_1 s m args below meth c Q D dA base 8 ad2 (Nn n2) I2 J2 R2 (nc + 5) (ns + 47) 720 (Lw b ad2 t) []) : GX p l e room_1 s m args below meth c Q D dA base 8 ad (Nn n) I J R nc ns 570 (Lw b ad t) [] := by
  obtain ⟨ver2, hv2, x, I1, J1, R1, hc, hm⟩ : ∃ ver2, ver2 ≤ ver + 1 ∧ BOs l D dA base n ad I J R yX3_worked cX3_worked 3 (some .int) 1 yX4_worked cX4_worked 2 1 [.int (xs (4 * t + 1))] ver2 := ⟨ver, Nat.le_succ _, BO.s (op_worked l D dA base n ver ad I J R hS (xs (4 * t + 1)))⟩
  refine x_aload_n C dL_law_570 rfl ?_
  refine x_aload_n C dL_law_571 rfl ?_
  refine x_iload C dL_law_572 rfl ?_
  refine x_iconst C 1 (by decide) dL_law_574 ?_
  refine x_iadd C dL_law_575 ?_
  refine x_sld C hx hbl hbb (4 * t + 1) (nI_1 _) (by omega) hL dL_law_576 ?_
  refine x_cV1 C yo_X3_worked m_L_82 rfl rfl (by first | assumption | exact Nat.one_pos) (hc) dL_law_577 rfl rfl (Nat.le_of_ble_eq_true rfl) ⟨by decide, by decide⟩ ⟨by show _ ≤ 601024; omega, by show _ ≤ 7293034; omega⟩ ?_
  refine x_aload_n C dL_law_580 rfl ?_
  refine x_aload_n C dL_law_581 rfl ?_
  refine x_iload C dL_law_582 rfl ?_
  refine x_iconst C 1 (by decide) dL_law_584 ?_
  refine x_iadd C dL_law_585 ?_
  refine x_sld C hx hbl hbb (4 * t + 1) (nI_1 _) (by omega) hL dL_law_586 ?_
  refine x_cVS C (Sp := SIM n ver2) yo_X4_worked m_L_85 rfl rfl (by first | assumption | exact Nat.one_pos) (hm) dL_law_587 rfl rfl (Nat.le_of_ble_eq_true rfl) ⟨by decide, by decide⟩ ⟨by show _ ≤ 601024; omega, by show _ ≤ 7293034; omega⟩ ?_
  intro I2 J2 R2 hS2
  refine x_icmp_eq C 720 dL_law_590 (by decide) (fun h590 => ?_) (fun h590 => ?_)
  · skip
    exact x_widen (by omega) (by omega) (kk n ver2 ad I2 J2 R2 hS2 hv2)
  · skip
    exact absurd rfl h590

set_option maxRecDepth 100000 in
set_option maxHeartbeats 4000000 in
theorem lw_c13 (C : CX p s m args meth c cL_law 8 RL ret D dA base) (hX : XT s) (hV : XV base s) (hl : l.stackTraces = false) (hx : va_X b Ln xs s s.heap) (hbl : b < s.heap.size) (hbb : s.heap.size ≤ base) (hL : Ln ≤ 2048) (ht : 4 * t + 4 ≤ Ln) (hnc : nc + 5 ≤ 601024) (hns : ns + 47 ≤ 7293034) (hS : SIM n ver I J R) (hv : ver < 1000) (kk : ∀ (n2 ver2 : Nat) (ad2 : Fa) (I2 : Fi) (J2 : Fj) (R2 : Fr), SIM n2 ver2 I2 J2 R2 → ver2 ≤ ver + 1 → GX p l e room_1 s m args below meth c Q D dA base 8 ad2 (Nn n2) I2 J2 R2 (nc + 5) (ns + 47) 720 (Lw b ad2 t) []) : GX p l e room_1 s m args below meth c Q D dA base 8 ad (Nn n) I J R nc ns 595 (Lw b ad t) [] := by
  obtain ⟨ver2, hv2, x, I1, J1, R1, hc, hm⟩ : ∃ ver2, ver2 ≤ ver + 1 ∧ BOs l D dA base n ad I J R yX3_kept cX3_kept 3 (some .int) 1 yX4_kept cX4_kept 2 1 [.int (xs (4 * t + 1))] ver2 := ⟨ver, Nat.le_succ _, BO.s (op_kept l D dA base n ver ad I J R hS (xs (4 * t + 1)))⟩
  refine x_aload_n C dL_law_595 rfl ?_
  refine x_aload_n C dL_law_596 rfl ?_
  refine x_iload C dL_law_597 rfl ?_
  refine x_iconst C 1 (by decide) dL_law_599 ?_
  refine x_iadd C dL_law_600 ?_
  refine x_sld C hx hbl hbb (4 * t + 1) (nI_1 _) (by omega) hL dL_law_601 ?_
  refine x_cV1 C yo_X3_kept m_L_86 rfl rfl (by first | assumption | exact Nat.one_pos) (hc) dL_law_602 rfl rfl (Nat.le_of_ble_eq_true rfl) ⟨by decide, by decide⟩ ⟨by show _ ≤ 601024; omega, by show _ ≤ 7293034; omega⟩ ?_
  refine x_aload_n C dL_law_605 rfl ?_
  refine x_aload_n C dL_law_606 rfl ?_
  refine x_iload C dL_law_607 rfl ?_
  refine x_iconst C 1 (by decide) dL_law_609 ?_
  refine x_iadd C dL_law_610 ?_
  refine x_sld C hx hbl hbb (4 * t + 1) (nI_1 _) (by omega) hL dL_law_611 ?_
  refine x_cVS C (Sp := SIM n ver2) yo_X4_kept m_L_89 rfl rfl (by first | assumption | exact Nat.one_pos) (hm) dL_law_612 rfl rfl (Nat.le_of_ble_eq_true rfl) ⟨by decide, by decide⟩ ⟨by show _ ≤ 601024; omega, by show _ ≤ 7293034; omega⟩ ?_
  intro I2 J2 R2 hS2
  refine x_icmp_eq C 720 dL_law_615 (by decide) (fun h615 => ?_) (fun h615 => ?_)
  · skip
    exact x_widen (by omega) (by omega) (kk n ver2 ad I2 J2 R2 hS2 hv2)
  · skip
    exact absurd rfl h615

set_option maxRecDepth 100000 in
set_option maxHeartbeats 4000000 in
theorem lw_c14 (C : CX p s m args meth c cL_law 8 RL ret D dA base) (hX : XT s) (hV : XV base s) (hl : l.stackTraces = false) (hx : va_X b Ln xs s s.heap) (hbl : b < s.heap.size) (hbb : s.heap.size ≤ base) (hL : Ln ≤ 2048) (ht : 4 * t + 4 ≤ Ln) (hnc : nc + 5 ≤ 601024) (hns : ns + 47 ≤ 7293034) (hS : SIM n ver I J R) (hv : ver < 1000) (kk : ∀ (n2 ver2 : Nat) (ad2 : Fa) (I2 : Fi) (J2 : Fj) (R2 : Fr), SIM n2 ver2 I2 J2 R2 → ver2 ≤ ver + 1 → GX p l e room_1 s m args below meth c Q D dA base 8 ad2 (Nn n2) I2 J2 R2 (nc + 5) (ns + 47) 720 (Lw b ad2 t) []) : GX p l e room_1 s m args below meth c Q D dA base 8 ad (Nn n) I J R nc ns 620 (Lw b ad t) [] := by
  obtain ⟨ver2, hv2, x, I1, J1, R1, hc, hm⟩ : ∃ ver2, ver2 ≤ ver + 1 ∧ BOs l D dA base n ad I J R yX3_changed cX3_changed 3 (some .int) 1 yX4_changed cX4_changed 2 1 [.int (xs (4 * t + 1))] ver2 := ⟨ver, Nat.le_succ _, BO.s (op_changed l D dA base n ver ad I J R hS (xs (4 * t + 1)))⟩
  refine x_aload_n C dL_law_620 rfl ?_
  refine x_aload_n C dL_law_621 rfl ?_
  refine x_iload C dL_law_622 rfl ?_
  refine x_iconst C 1 (by decide) dL_law_624 ?_
  refine x_iadd C dL_law_625 ?_
  refine x_sld C hx hbl hbb (4 * t + 1) (nI_1 _) (by omega) hL dL_law_626 ?_
  refine x_cV1 C yo_X3_changed m_L_90 rfl rfl (by first | assumption | exact Nat.one_pos) (hc) dL_law_627 rfl rfl (Nat.le_of_ble_eq_true rfl) ⟨by decide, by decide⟩ ⟨by show _ ≤ 601024; omega, by show _ ≤ 7293034; omega⟩ ?_
  refine x_aload_n C dL_law_630 rfl ?_
  refine x_aload_n C dL_law_631 rfl ?_
  refine x_iload C dL_law_632 rfl ?_
  refine x_iconst C 1 (by decide) dL_law_634 ?_
  refine x_iadd C dL_law_635 ?_
  refine x_sld C hx hbl hbb (4 * t + 1) (nI_1 _) (by omega) hL dL_law_636 ?_
  refine x_cVS C (Sp := SIM n ver2) yo_X4_changed m_L_93 rfl rfl (by first | assumption | exact Nat.one_pos) (hm) dL_law_637 rfl rfl (Nat.le_of_ble_eq_true rfl) ⟨by decide, by decide⟩ ⟨by show _ ≤ 601024; omega, by show _ ≤ 7293034; omega⟩ ?_
  intro I2 J2 R2 hS2
  refine x_icmp_eq C 720 dL_law_640 (by decide) (fun h640 => ?_) (fun h640 => ?_)
  · skip
    exact x_widen (by omega) (by omega) (kk n ver2 ad I2 J2 R2 hS2 hv2)
  · skip
    exact absurd rfl h640

set_option maxRecDepth 100000 in
set_option maxHeartbeats 4000000 in
theorem lw_c15 (C : CX p s m args meth c cL_law 8 RL ret D dA base) (hX : XT s) (hV : XV base s) (hl : l.stackTraces = false) (hx : va_X b Ln xs s s.heap) (hbl : b < s.heap.size) (hbb : s.heap.size ≤ base) (hL : Ln ≤ 2048) (ht : 4 * t + 4 ≤ Ln) (hnc : nc + 5 ≤ 601024) (hns : ns + 47 ≤ 7293034) (hS : SIM n ver I J R) (hv : ver < 1000) (kk : ∀ (n2 ver2 : Nat) (ad2 : Fa) (I2 : Fi) (J2 : Fj) (R2 : Fr), SIM n2 ver2 I2 J2 R2 → ver2 ≤ ver + 1 → GX p l e room_1 s m args below meth c Q D dA base 8 ad2 (Nn n2) I2 J2 R2 (nc + 5) (ns + 47) 720 (Lw b ad2 t) []) : GX p l e room_1 s m args below meth c Q D dA base 8 ad (Nn n) I J R nc ns 645 (Lw b ad t) [] := by
  obtain ⟨ver2, hv2, x, I1, J1, R1, hc, hm⟩ : ∃ ver2, ver2 ≤ ver + 1 ∧ BOs l D dA base n ad I J R yX3_asked cX3_asked 4 (some .int) 1 yX4_asked cX4_asked 3 1 [.int (xs (4 * t + 1)), .int (xs (4 * t + 2))] ver2 := ⟨ver, Nat.le_succ _, BO.s (op_asked l D dA base n ver ad I J R hS (xs (4 * t + 1)) (xs (4 * t + 2)))⟩
  refine x_aload_n C dL_law_645 rfl ?_
  refine x_aload_n C dL_law_646 rfl ?_
  refine x_iload C dL_law_647 rfl ?_
  refine x_iconst C 1 (by decide) dL_law_649 ?_
  refine x_iadd C dL_law_650 ?_
  refine x_sld C hx hbl hbb (4 * t + 1) (nI_1 _) (by omega) hL dL_law_651 ?_
  refine x_aload_n C dL_law_652 rfl ?_
  refine x_iload C dL_law_653 rfl ?_
  refine x_iconst C 2 (by decide) dL_law_655 ?_
  refine x_iadd C dL_law_656 ?_
  refine x_sld C hx hbl hbb (4 * t + 2) (ix2 _) (by omega) hL dL_law_657 ?_
  refine x_cV1 C yo_X3_asked m_L_94 rfl rfl (by first | assumption | exact Nat.one_pos) (hc) dL_law_658 rfl rfl (Nat.le_of_ble_eq_true rfl) ⟨by decide, by decide⟩ ⟨by show _ ≤ 601024; omega, by show _ ≤ 7293034; omega⟩ ?_
  refine x_aload_n C dL_law_661 rfl ?_
  refine x_aload_n C dL_law_662 rfl ?_
  refine x_iload C dL_law_663 rfl ?_
  refine x_iconst C 1 (by decide) dL_law_665 ?_
  refine x_iadd C dL_law_666 ?_
  refine x_sld C hx hbl hbb (4 * t + 1) (nI_1 _) (by omega) hL dL_law_667 ?_
  refine x_aload_n C dL_law_668 rfl ?_
  refine x_iload C dL_law_669 rfl ?_
  refine x_iconst C 2 (by decide) dL_law_671 ?_
  refine x_iadd C dL_law_672 ?_
  refine x_sld C hx hbl hbb (4 * t + 2) (ix2 _) (by omega) hL dL_law_673 ?_
  refine x_cVS C (Sp := SIM n ver2) yo_X4_asked m_L_97 rfl rfl (by first | assumption | exact Nat.one_pos) (hm) dL_law_674 rfl rfl (Nat.le_of_ble_eq_true rfl) ⟨by decide, by decide⟩ ⟨by show _ ≤ 601024; omega, by show _ ≤ 7293034; omega⟩ ?_
  intro I2 J2 R2 hS2
  refine x_icmp_eq C 720 dL_law_677 (by decide) (fun h677 => ?_) (fun h677 => ?_)
  · skip
    exact x_widen (by omega) (by omega) (kk n ver2 ad I2 J2 R2 hS2 hv2)
  · skip
    exact absurd rfl h677

set_option maxRecDepth 100000 in
set_option maxHeartbeats 4000000 in
theorem lw_c16 (C : CX p s m args meth c cL_law 8 RL ret D dA base) (hX : XT s) (hV : XV base s) (hl : l.stackTraces = false) (hx : va_X b Ln xs s s.heap) (hbl : b < s.heap.size) (hbb : s.heap.size ≤ base) (hL : Ln ≤ 2048) (ht : 4 * t + 4 ≤ Ln) (hnc : nc + 5 ≤ 601024) (hns : ns + 47 ≤ 7293034) (hS : SIM n ver I J R) (hv : ver < 1000) (kk : ∀ (n2 ver2 : Nat) (ad2 : Fa) (I2 : Fi) (J2 : Fj) (R2 : Fr), SIM n2 ver2 I2 J2 R2 → ver2 ≤ ver + 1 → GX p l e room_1 s m args below meth c Q D dA base 8 ad2 (Nn n2) I2 J2 R2 (nc + 5) (ns + 47) 720 (Lw b ad2 t) []) : GX p l e room_1 s m args below meth c Q D dA base 8 ad (Nn n) I J R nc ns 682 (Lw b ad t) [] := by
  obtain ⟨ver2, hv2, x, I1, J1, R1, hc, hm⟩ : ∃ ver2, ver2 ≤ ver + 1 ∧ BOs l D dA base n ad I J R yX3_drop cX3_drop 3 (some .boolean) 4 yX4_drop cX4_drop 2 1 [.int (xs (4 * t + 1))] ver2 := ⟨ver, Nat.le_succ _, BO.s (op_drop l D dA base n ver ad I J R hS (xs (4 * t + 1)))⟩
  refine x_aload_n C dL_law_682 rfl ?_
  refine x_aload_n C dL_law_683 rfl ?_
  refine x_iload C dL_law_684 rfl ?_
  refine x_iconst C 1 (by decide) dL_law_686 ?_
  refine x_iadd C dL_law_687 ?_
  refine x_sld C hx hbl hbb (4 * t + 1) (nI_1 _) (by omega) hL dL_law_688 ?_
  refine x_cV1 C yo_X3_drop m_L_98 rfl rfl (by first | assumption | exact Nat.one_pos) (hc) dL_law_689 rfl rfl (Nat.le_of_ble_eq_true rfl) ⟨by decide, by decide⟩ ⟨by show _ ≤ 601024; omega, by show _ ≤ 7293034; omega⟩ ?_
  refine x_aload_n C dL_law_692 rfl ?_
  refine x_aload_n C dL_law_693 rfl ?_
  refine x_iload C dL_law_694 rfl ?_
  refine x_iconst C 1 (by decide) dL_law_696 ?_
  refine x_iadd C dL_law_697 ?_
  refine x_sld C hx hbl hbb (4 * t + 1) (nI_1 _) (by omega) hL dL_law_698 ?_
  refine x_cVS C (Sp := SIM n ver2) yo_X4_drop m_L_102 rfl rfl (by first | assumption | exact Nat.one_pos) (hm) dL_law_699 rfl rfl (Nat.le_of_ble_eq_true rfl) ⟨by decide, by decide⟩ ⟨by show _ ≤ 601024; omega, by show _ ≤ 7293034; omega⟩ ?_
  intro I2 J2 R2 hS2
  refine x_icmp_eq C 720 dL_law_702 (by decide) (fun h702 => ?_) (fun h702 => ?_)
  · skip
    exact x_widen (by omega) (by omega) (kk n ver2 ad I2 J2 R2 hS2 hv2)
  · skip
    exact absurd rfl h702

set_option maxRecDepth 100000 in
set_option maxHeartbeats 4000000 in
theorem lw_c17 (C : CX p s m args meth c cL_law 8 RL ret D dA base) (hX : XT s) (hV : XV base s) (hl : l.stackTraces = false) (hx : va_X b Ln xs s s.heap) (hbl : b < s.heap.size) (hbb : s.heap.size ≤ base) (hL : Ln ≤ 2048) (ht : 4 * t + 4 ≤ Ln) (hnc : nc + 5 ≤ 601024) (hns : ns + 47 ≤ 7293034) (hS : SIM n ver I J R) (hv : ver < 1000) (kk : ∀ (n2 ver2 : Nat) (ad2 : Fa) (I2 : Fi) (J2 : Fj) (R2 : Fr), SIM n2 ver2 I2 J2 R2 → ver2 ≤ ver + 1 → GX p l e room_1 s m args below meth c Q D dA base 8 ad2 (Nn n2) I2 J2 R2 (nc + 5) (ns + 47) 720 (Lw b ad2 t) []) : GX p l e room_1 s m args below meth c Q D dA base 8 ad (Nn n) I J R nc ns 707 (Lw b ad t) [] := by
  obtain ⟨ver2, hv2, x, I1, J1, R1, hc, hm⟩ : ∃ ver2, ver2 ≤ ver + 1 ∧ BOs l D dA base n ad I J R yX3_version cX3_version 1 (some .int) 0 yX4_version cX4_version 1 0 [] ver2 := ⟨ver, Nat.le_succ _, BO.s (op_version l D dA base n ver ad I J R hS )⟩
  refine x_aload_n C dL_law_707 rfl ?_
  refine x_cV1 C yo_X3_version m_L_103 rfl rfl (by first | assumption | exact Nat.one_pos) (hc) dL_law_708 rfl rfl (Nat.le_of_ble_eq_true rfl) ⟨by decide, by decide⟩ ⟨by show _ ≤ 601024; omega, by show _ ≤ 7293034; omega⟩ ?_
  refine x_aload_n C dL_law_711 rfl ?_
  refine x_cVS C (Sp := SIM n ver2) yo_X4_version m_L_106 rfl rfl (by first | assumption | exact Nat.one_pos) (hm) dL_law_712 rfl rfl (Nat.le_of_ble_eq_true rfl) ⟨by decide, by decide⟩ ⟨by show _ ≤ 601024; omega, by show _ ≤ 7293034; omega⟩ ?_
  intro I2 J2 R2 hS2
  refine x_icmp_eq C 720 dL_law_715 (by decide) (fun h715 => ?_) (fun h715 => ?_)
  · skip
    exact x_widen (by omega) (by omega) (kk n ver2 ad I2 J2 R2 hS2 hv2)
  · skip
    exact absurd rfl h715

set_option maxRecDepth 100000 in
set_option maxHeartbeats 4000000 in
theorem lw_c11 (C : CX p s m args meth c cL_law 8 RL ret D dA base) (hX : XT s) (hV : XV base s) (hl : l.stackTraces = false) (hx : va_X b Ln xs s s.heap) (hbl : b < s.heap.size) (hbb : s.heap.size ≤ base) (hL : Ln ≤ 2048) (ht : 4 * t + 4 ≤ Ln) (hnc : nc + 5 ≤ 601024) (hns : ns + 47 ≤ 7293034) (hS : SIM n ver I J R) (hv : ver < 1000) (kk : ∀ (n2 ver2 : Nat) (ad2 : Fa) (I2 : Fi) (J2 : Fj) (R2 : Fr), SIM n2 ver2 I2 J2 R2 → ver2 ≤ ver + 1 → GX p l e room_1 s m args below meth c Q D dA base 8 ad2 (Nn n2) I2 J2 R2 (nc + 5) (ns + 47) 720 (Lw b ad2 t) []) : GX p l e room_1 s m args below meth c Q D dA base 8 ad (Nn n) I J R nc ns 515 (Lw b ad t) [] := by
  obtain ⟨rs, aq, zs, rw, ap, pk, hB, hP, h4⟩ := id hS
  obtain ⟨k1, k2, k3, k4, k5, k6, k7, hT, hG, hM, hcl, hdf, hfr⟩ := id hB
  have hn := hG.2.1
  rcases nIk (xs (4 * t + 1)) hn with ho | ⟨k, hk, ek⟩
  · skip
    refine x_aload_n C dL_law_515 rfl ?_
    refine x_aload_n C dL_law_516 rfl ?_
    refine x_iload C dL_law_517 rfl ?_
    refine x_iconst C 1 (by decide) dL_law_519 ?_
    refine x_iadd C dL_law_520 ?_
    refine x_sld C hx hbl hbb (4 * t + 1) (nI_1 _) (by omega) hL dL_law_521 ?_
    refine x_aload_n C dL_law_522 rfl ?_
    refine x_callL C hV (c_L_value_out l hl D dA base n ad I J R hT hG _ ho) dL_law_523 rfl rfl (Nat.le_of_ble_eq_true rfl) ⟨by decide, by decide⟩ ⟨by show _ ≤ 601024; omega, by show _ ≤ 7293034; omega⟩ ?_
    refine x_istore C dL_law_526 (by decide) rfl rfl ?_
    refine x_aload_n C dL_law_528 rfl ?_
    refine x_aload_n C dL_law_529 rfl ?_
    refine x_iload C dL_law_530 rfl ?_
    refine x_iconst C 1 (by decide) dL_law_532 ?_
    refine x_iadd C dL_law_533 ?_
    refine x_sld C hx hbl hbb (4 * t + 1) (nI_1 _) (by omega) hL dL_law_534 ?_
    refine x_cV1 C yo_X4_value m_L_78 rfl rfl (by first | assumption | exact Nat.one_pos) (c_X4_value_out l D dA base n ad I J R hT hM _ ho) dL_law_535 rfl rfl (Nat.le_of_ble_eq_true rfl) ⟨by decide, by decide⟩ ⟨by show _ ≤ 601024; omega, by show _ ≤ 7293034; omega⟩ ?_
    refine x_lstore C dL_law_538 (by decide) rfl rfl ?_
    refine x_aload_n C dL_law_540 rfl ?_
    refine x_cV1 C yo_X4_thrown m_L_79 rfl rfl (by first | assumption | exact Nat.one_pos) (c_X4_thrown l D dA base n ad _ J R hT) dL_law_541 rfl rfl (Nat.le_of_ble_eq_true rfl) ⟨by decide, by decide⟩ ⟨by show _ ≤ 601024; omega, by show _ ≤ 7293034; omega⟩ ?_
    rw [up3_s]
    refine x_iload C dL_law_544 rfl ?_
    refine x_icmp_eq C 551 dL_law_546 (by decide) (fun h546 => ?_) (fun h546 => ?_)
    · skip
      refine x_iload C dL_law_551 rfl ?_
      refine x_if_ne C 567 dL_law_553 (by decide) (fun h553 => ?_) (fun h553 => ?_)
      · skip
        refine x_goto C 720 dL_law_567 (by decide) ?_
        exact x_drop 5 rfl (x_drop 6 rfl (x_widen (by omega) (by omega) (kk n ver ad _ _ _ (sim_code hS 1) (by omega))))
      · skip
        exact absurd h553 (by decide)
    · skip
      exact absurd rfl h546
  · have e7 := (k1 k hk).2.2.1
    have e8 := (k1 k hk).2.2.2.2.2.2
    have es := sib_sure hB hk
    by_cases hq : sure I k = true ∧ I 4 k 7 = 1
    · skip
      refine x_aload_n C dL_law_515 rfl ?_
      refine x_aload_n C dL_law_516 rfl ?_
      refine x_iload C dL_law_517 rfl ?_
      refine x_iconst C 1 (by decide) dL_law_519 ?_
      refine x_iadd C dL_law_520 ?_
      refine x_sld C hx hbl hbb (4 * t + 1) (nI_1 _) (by omega) hL dL_law_521 ?_
      rw [ek]
      refine x_aload_n C dL_law_522 rfl ?_
      refine x_callL C hV (c_L_value_ok l hl D dA base n ad I J R hT hG k hk hq.1 hq.2) dL_law_523 rfl rfl (Nat.le_of_ble_eq_true rfl) ⟨by decide, by decide⟩ ⟨by show _ ≤ 601024; omega, by show _ ≤ 7293034; omega⟩ ?_
      refine x_istore C dL_law_526 (by decide) rfl rfl ?_
      refine x_aload_n C dL_law_528 rfl ?_
      refine x_aload_n C dL_law_529 rfl ?_
      refine x_iload C dL_law_530 rfl ?_
      refine x_iconst C 1 (by decide) dL_law_532 ?_
      refine x_iadd C dL_law_533 ?_
      refine x_sld C hx hbl hbb (4 * t + 1) (nI_1 _) (by omega) hL dL_law_534 ?_
      rw [ek]
      refine x_cV1 C yo_X4_value m_L_78 rfl rfl (by first | assumption | exact Nat.one_pos) (c_X4_value_ok l D dA base n ad I (up3 J 12 0 0 (J 4 k 8)) R hT hM k hk (by rw [es]; exact hq.1) (by rw [← e7]; exact hq.2)) dL_law_535 rfl rfl (Nat.le_of_ble_eq_true rfl) ⟨by decide, by decide⟩ ⟨by show _ ≤ 601024; omega, by show _ ≤ 7293034; omega⟩ ?_
      refine x_lstore C dL_law_538 (by decide) rfl rfl ?_
      refine x_aload_n C dL_law_540 rfl ?_
      refine x_cV1 C yo_X4_thrown m_L_79 rfl rfl (by first | assumption | exact Nat.one_pos) (c_X4_thrown l D dA base n ad _ (up3 J 12 0 0 (J 4 k 8)) R hT) dL_law_541 rfl rfl (Nat.le_of_ble_eq_true rfl) ⟨by decide, by decide⟩ ⟨by show _ ≤ 601024; omega, by show _ ≤ 7293034; omega⟩ ?_
      rw [up3_s]
      refine x_iload C dL_law_544 rfl ?_
      refine x_icmp_eq C 551 dL_law_546 (by decide) (fun h546 => ?_) (fun h546 => ?_)
      · skip
        refine x_iload C dL_law_551 rfl ?_
        refine x_if_ne C 567 dL_law_553 (by decide) (fun h553 => ?_) (fun h553 => ?_)
        · skip
          exact absurd rfl h553
        · skip
          refine x_aload_n C dL_law_556 rfl ?_
          refine x_iconst C 0 (by decide) dL_law_557 ?_
          refine x_laldN C (0) rfl rfl rfl (by first | assumption | exact Nat.one_pos) (by decide) (by decide) dL_law_558 ?_
          rw [up3_s]
          refine x_lload C dL_law_559 rfl ?_
          refine x_lcmp C dL_law_561 ?_
          refine x_if_eq C 567 dL_law_562 (by decide) (fun h562 => ?_) (fun h562 => ?_)
          · skip
            refine x_goto C 720 dL_law_567 (by decide) ?_
            exact x_drop 5 rfl (x_drop 6 rfl (x_widen (by omega) (by omega) (kk n ver ad _ _ _ (sim_12 (sim_code hS 0) (J 4 k 8)) (by omega))))
          · skip
            exact absurd (by rw [lg_cmp_eq]; exact e8) h562
      · skip
        exact absurd rfl h546
    · skip
      refine x_aload_n C dL_law_515 rfl ?_
      refine x_aload_n C dL_law_516 rfl ?_
      refine x_iload C dL_law_517 rfl ?_
      refine x_iconst C 1 (by decide) dL_law_519 ?_
      refine x_iadd C dL_law_520 ?_
      refine x_sld C hx hbl hbb (4 * t + 1) (nI_1 _) (by omega) hL dL_law_521 ?_
      rw [ek]
      refine x_aload_n C dL_law_522 rfl ?_
      refine x_callL C hV (c_L_value_bad l hl D dA base n ad I J R hT hG k hk hq) dL_law_523 rfl rfl (Nat.le_of_ble_eq_true rfl) ⟨by decide, by decide⟩ ⟨by show _ ≤ 601024; omega, by show _ ≤ 7293034; omega⟩ ?_
      refine x_istore C dL_law_526 (by decide) rfl rfl ?_
      refine x_aload_n C dL_law_528 rfl ?_
      refine x_aload_n C dL_law_529 rfl ?_
      refine x_iload C dL_law_530 rfl ?_
      refine x_iconst C 1 (by decide) dL_law_532 ?_
      refine x_iadd C dL_law_533 ?_
      refine x_sld C hx hbl hbb (4 * t + 1) (nI_1 _) (by omega) hL dL_law_534 ?_
      rw [ek]
      refine x_cV1 C yo_X4_value m_L_78 rfl rfl (by first | assumption | exact Nat.one_pos) (c_X4_value_bad l D dA base n ad I J R hT hM k hk (by rw [es, ← e7]; exact hq)) dL_law_535 rfl rfl (Nat.le_of_ble_eq_true rfl) ⟨by decide, by decide⟩ ⟨by show _ ≤ 601024; omega, by show _ ≤ 7293034; omega⟩ ?_
      refine x_lstore C dL_law_538 (by decide) rfl rfl ?_
      refine x_aload_n C dL_law_540 rfl ?_
      refine x_cV1 C yo_X4_thrown m_L_79 rfl rfl (by first | assumption | exact Nat.one_pos) (c_X4_thrown l D dA base n ad _ J R hT) dL_law_541 rfl rfl (Nat.le_of_ble_eq_true rfl) ⟨by decide, by decide⟩ ⟨by show _ ≤ 601024; omega, by show _ ≤ 7293034; omega⟩ ?_
      rw [up3_s]
      refine x_iload C dL_law_544 rfl ?_
      refine x_icmp_eq C 551 dL_law_546 (by decide) (fun h546 => ?_) (fun h546 => ?_)
      · skip
        refine x_iload C dL_law_551 rfl ?_
        refine x_if_ne C 567 dL_law_553 (by decide) (fun h553 => ?_) (fun h553 => ?_)
        · skip
          refine x_goto C 720 dL_law_567 (by decide) ?_
          exact x_drop 5 rfl (x_drop 6 rfl (x_widen (by omega) (by omega) (kk n ver ad _ _ _ (sim_code hS 2) (by omega))))
        · skip
          exact absurd h553 (by decide)
      · skip
        exact absurd rfl h546

end LW
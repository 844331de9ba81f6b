/-! calls that change nothing but the reference's code -/
theorem sib_code {n ver : Nat} {rs aq : Nat → Nat} {rw ap : Nat → Nat → Nat} {I : Fi} {J : Fj} {R : Fr} (h : SIB n ver rs aq rw ap I J R) (v : Int32) : SIB n ver rs aq rw ap (up3 I 11 0 0 v) J R := by
  obtain ⟨h1, h2, h3, h4, h5, h6, h7, h8⟩ := h
  refine ⟨?_, ?_, ?_, ?_, ?_, h6, ?_, ?_⟩
  · intro k hk; simpa [up3] using h1 k hk
  · intro k hk; simpa [up3] using h2 k hk
  · refine ⟨by simpa [up3] using h3.1, by simpa [up3] using h3.2.1, h3.2.2.1, fun k hk => by simpa [up3] using h3.2.2.2 k hk⟩
  · intro k hk; simpa [up3] using h4 k hk
  · exact ⟨fun k hk => by simpa [up3] using h5.1 k hk, h5.2⟩
  · obtain ⟨z, z1, z2, z3, z4⟩ := h7
    exact ⟨z, z1, by simpa [up3] using z2, by simpa [up3] using z3, fun i hi => by simpa [up3] using z4 i hi⟩
  · obtain ⟨a1, a2, a3, a4, a5, a6⟩ := h8
    exact ⟨a1, a2.up (by decide) (by decide), a3.up (by decide), a4, fun c i hc hi => (a5 c i hc hi).upI (by omega), fun k hk => by simpa [up3] using a6 k hk⟩
theorem sure_code (I : Fi) (v : Int32) (k : Nat) : sure (up3 I 11 0 0 v) k = sure I k := by simp [sure, up3]
theorem pil_code {n : Nat} {rs aq zs : Nat → Nat} {rw pk : Nat → Nat → Nat} {I : Fi} {J : Fj} {R : Fr} (h : PIL n rs aq rw zs pk I J R) (v : Int32) : PIL n rs aq rw zs pk (up3 I 11 0 0 v) J R := by
  obtain ⟨h1, h2, h3, h4⟩ := h
  refine ⟨fun q hq => by simpa [up3] using h1 q hq, fun q j hq hj => ?_, h3, fun k hk => by simpa [up3] using h4 k hk⟩
  obtain ⟨b1, b2, b3, b4, a, f, b5, b6, b7, b8, b9⟩ := h2 q j hq hj
  refine ⟨b1, by rw [sure_code]; exact b2, b3, by simpa [up3] using b4, a, f, by simpa [up3] using b5, by simpa [up3] using b6, by simpa [up3] using b7, b8, ?_⟩
  rcases b9 with ⟨c1, c2, c3, c4⟩ | ⟨c1, c2, c3, tp, c4, c5, c6, c7⟩
  · exact Or.inl ⟨by simpa [up3] using c1, by simpa [up3] using c2, by simpa [up3] using c3, c4⟩
  · exact Or.inr ⟨by simpa [up3] using c1, by simpa [up3] using c2, c3, tp, fun i hi => by simpa [up3, sure_code] using c4 i hi, c5, by simpa [up3] using c6, c7⟩
theorem sim_code {n ver : Nat} {I : Fi} {J : Fj} {R : Fr} (h : SIM n ver I J R) (v : Int32) : SIM n ver (up3 I 11 0 0 v) J R := by
  obtain ⟨rs, aq, zs, rw, ap, pk, h1, h2, h3⟩ := h
  exact ⟨rs, aq, zs, rw, ap, pk, sib_code h1 v, pil_code h2 v, h3⟩
/-- both answer alike, and the relation holds behind them -/
def BO (l : Launch) (D : va_G) (dA : Nat → ClassId) (base n : Nat) (ad : Fa) (I : Fi) (J : Fj) (R : Fr) (yc : MethodName) (cc : ByteArray) (mlc : Nat) (rt : Option FieldType) (dc : Nat) (ym : MethodName) (cm : ByteArray) (mlm dm : Nat) (as : List Value) (ver2 : Nat) : Prop :=
  ∃ (x : Int32) (I1 : Fi) (J1 : Fj) (R1 : Fr) (I2 : Fi) (J2 : Fj) (R2 : Fr), CT l D dA base yc cc mlc rt dc 0 0 (.ref (ad 0 0) :: as) ad (Nn n) I J R (po (some (.int x)) ad (Nn n) I1 J1 R1) ∧ CT l D dA base ym cm mlm rt dm 0 0 (.ref (ad 11 0) :: as) ad (Nn n) I1 J1 R1 (po (some (.int x)) ad (Nn n) I2 J2 R2) ∧ SIM n ver2 I2 J2 R2
theorem CT.cong {l : Launch} {D : va_G} {dA : Nat → ClassId} {base : Nat} {y : MethodName} {cc : ByteArray} {maxL : Nat} {ret : Option FieldType} {d : Nat} {as : List Value} {ad : Fa} {N : Nat → Nat} {I I2 I3 : Fi} {J J2 J3 : Fj} {R R2 R3 : Fr} {r r2 : Option Value} (h : CT l D dA base y cc maxL ret d 0 0 as ad N I J R (po r ad N I2 J2 R2)) (e0 : r = r2) (e1 : I2 = I3) (e2 : J2 = J3) (e3 : R2 = R3) : CT l D dA base y cc maxL ret d 0 0 as ad N I J R (po r2 ad N I3 J3 R3) := by
  subst e0; subst e1; subst e2; subst e3; exact h
theorem op_worked (l : Launch) (D : va_G) (dA : Nat → ClassId) (base n ver : Nat) (ad : Fa) (I : Fi) (J : Fj) (R : Fr) (hS : SIM n ver I J R) (x : Int32) : BO l D dA base n ad I J R yX3_worked cX3_worked 3 (some .int) 1 yX4_worked cX4_worked 2 1 [.int x] ver := by
  obtain ⟨rs, aq, zs, rw, ap, pk, hB, hP, h4⟩ := id hS
  obtain ⟨k1, k2, k3, k4, k5, k6, k7, hT, hG, hM, hcl, hdf, hfr⟩ := id hB
  have hn := hG.2.1
  rcases nIk x hn with hx | ⟨k, hk, rfl⟩
  · exact ⟨_, _, _, _, _, _, _, c_X3_worked_out l D dA base n ad I J R hT hG x hx, c_X4_worked_out l D dA base n ad I J R hT hM x hx, sim_code hS 0⟩
  · exact ⟨_, _, _, _, _, _, _, c_X3_worked_in l D dA base n ad I J R hT hG k hk, (c_X4_worked_in l D dA base n ad I J R hT hM k hk).cong (by rw [(k1 k hk).2.2.2.2.1]) rfl rfl rfl, sim_code hS 0⟩

theorem op_kept (l : Launch) (D : va_G) (dA : Nat → ClassId) (base n ver : Nat) (ad : Fa) (I : Fi) (J : Fj) (R : Fr) (hS : SIM n ver I J R) (x : Int32) : BO l D dA base n ad I J R yX3_kept cX3_kept 3 (some .int) 1 yX4_kept cX4_kept 2 1 [.int x] ver := by
  obtain ⟨rs, aq, zs, rw, ap, pk, hB, hP, h4⟩ := id hS
  obtain ⟨k1, k2, k3, k4, k5, k6, k7, hT, hG, hM, hcl, hdf, hfr⟩ := id hB
  have hn := hG.2.1
  rcases nIk x hn with hx | ⟨k, hk, rfl⟩
  · exact ⟨_, _, _, _, _, _, _, c_X3_kept_out l D dA base n ad I J R hT hG x hx, c_X4_kept_out l D dA base n ad I J R hT hM x hx, sim_code hS 0⟩
  · exact ⟨_, _, _, _, _, _, _, c_X3_kept_in l D dA base n ad I J R hT hG k hk, (c_X4_kept_in l D dA base n ad I J R hT hM k hk).cong (by rw [(k1 k hk).2.2.2.2.2.1]) rfl rfl rfl, sim_code hS 0⟩

theorem op_version (l : Launch) (D : va_G) (dA : Nat → ClassId) (base n ver : Nat) (ad : Fa) (I : Fi) (J : Fj) (R : Fr) (hS : SIM n ver I J R)  : BO l D dA base n ad I J R yX3_version cX3_version 1 (some .int) 0 yX4_version cX4_version 1 0 [] ver := by
  obtain ⟨rs, aq, zs, rw, ap, pk, hB, hP, h4⟩ := id hS
  obtain ⟨k1, k2, k3, k4, k5, k6, k7, hT, hG, hM, hcl, hdf, hfr⟩ := id hB
  have hn := hG.2.1
  exact ⟨_, _, _, _, _, _, _, c_X3_version l D dA base n ad I J R hT, (c_X4_version l D dA base n ad I J R hT).cong (by rw [k3.1, k3.2.1]) rfl rfl rfl, sim_code hS 0⟩

theorem op_state (l : Launch) (D : va_G) (dA : Nat → ClassId) (base n ver : Nat) (ad : Fa) (I : Fi) (J : Fj) (R : Fr) (hS : SIM n ver I J R) (x : Int32) : BO l D dA base n ad I J R yX3_state cX3_state 3 (some .int) 2 yX4_state cX4_state 2 1 [.int x] ver := by
  obtain ⟨rs, aq, zs, rw, ap, pk, hB, hP, h4⟩ := id hS
  obtain ⟨k1, k2, k3, k4, k5, k6, k7, hT, hG, hM, hcl, hdf, hfr⟩ := id hB
  have hn := hG.2.1
  rcases nIk x hn with hx | ⟨k, hk, rfl⟩
  · exact ⟨_, _, _, _, _, _, _, c_X3_state_out l D dA base n ad I J R hT hG x hx, c_X4_state_out l D dA base n ad I J R hT hM x hx, sim_code hS 0⟩
  · exact ⟨_, _, _, _, _, _, _, c_X3_state_in l D dA base n ad I J R hT hG k hk, (c_X4_state_in l D dA base n ad I J R hT hM k hk).cong (by rw [sib_sure hB hk, (k1 k hk).2.2.1]) rfl rfl rfl, sim_code hS 0⟩

theorem op_changed (l : Launch) (D : va_G) (dA : Nat → ClassId) (base n ver : Nat) (ad : Fa) (I : Fi) (J : Fj) (R : Fr) (hS : SIM n ver I J R) (x : Int32) : BO l D dA base n ad I J R yX3_changed cX3_changed 3 (some .int) 1 yX4_changed cX4_changed 2 1 [.int x] ver := by
  obtain ⟨rs, aq, zs, rw, ap, pk, hB, hP, h4⟩ := id hS
  obtain ⟨k1, k2, k3, k4, k5, k6, k7, hT, hG, hM, hcl, hdf, hfr⟩ := id hB
  have hn := hG.2.1
  rcases nIk x hn with hx | ⟨k, hk, rfl⟩
  · exact ⟨_, _, _, _, _, _, _, c_X3_changed_out l D dA base n ad I J R hT hG x hx, c_X4_changed_out l D dA base n ad I J R hT hM x hx, sim_code hS 0⟩
  · refine ⟨_, _, _, _, _, _, _, c_X3_changed_in l D dA base n ad I J R hT hG k hk, (c_X4_changed_in l D dA base n ad I J R hT hM k hk).cong ?_ rfl rfl rfl, sim_code hS 0⟩
    rw [← (k1 k hk).1, ← (k1 k hk).2.2.2.1]
    by_cases hc : I 4 k 1 = -1 ∨ ¬ I 4 k 10 = 0
    · rw [if_pos hc, if_pos hc, (k3.2.2.2 k hk).2.2 hc]
    · rw [if_neg hc, if_neg hc]

theorem op_asked (l : Launch) (D : va_G) (dA : Nat → ClassId) (base n ver : Nat) (ad : Fa) (I : Fi) (J : Fj) (R : Fr) (hS : SIM n ver I J R) (x y : Int32) : BO l D dA base n ad I J R yX3_asked cX3_asked 4 (some .int) 1 yX4_asked cX4_asked 3 1 [.int x, .int y] ver := by
  obtain ⟨rs, aq, zs, rw, ap, pk, hB, hP, h4⟩ := id hS
  obtain ⟨k1, k2, k3, k4, k5, k6, k7, hT, hG, hM, hcl, hdf, hfr⟩ := id hB
  have hn := hG.2.1
  rcases nIk x hn with hx | ⟨k, hk, rfl⟩
  · exact ⟨_, _, _, _, _, _, _, c_X3_asked_out l D dA base n ad I J R hT hG x hx y, c_X4_asked_out l D dA base n ad I J R hT hM x hx y, sim_code hS 0⟩
  · obtain ⟨a1, a2, a3, a4⟩ := k4 k hk
    have e10 := (k1 k hk).2.2.2.1
    by_cases hq : I 4 k 10 = 0
    · exact ⟨_, _, _, _, _, _, _, c_X3_asked_not l D dA base n ad I J R hT hG k hk y hq, c_X4_asked_not l D dA base n ad I J R hT hM k hk y (by rw [← e10]; exact hq), sim_code hS 0⟩
    · rcases nIk (n := aq k) y (by omega) with hy | ⟨j, hj, rfl⟩
      · exact ⟨_, _, _, _, _, _, _, c_X3_asked_far l D dA base n ad I J R hT hG k hk y (aq k) a1 hy hq, c_X4_asked_far l D dA base n ad I J R hT hM k hk y (aq k) a2 hy, sim_code hS 0⟩
      · exact ⟨_, _, _, _, _, _, _, c_X3_asked_in l D dA base n ad I J R hT hG k hk j (aq k) a1 a3 hj hq, (c_X4_asked_in l D dA base n ad I J R hT hM k hk j (aq k) a2 a3 hj (by rw [← e10]; exact hq)).cong (by rw [(a4 j hj).1, (a4 j hj).2.1]) rfl rfl rfl, sim_code hS 0⟩

theorem op_ring (l : Launch) (D : va_G) (dA : Nat → ClassId) (base n ver : Nat) (ad : Fa) (I : Fi) (J : Fj) (R : Fr) (hS : SIM n ver I J R) (x : Int32) : BO l D dA base n ad I J R yX3_ring cX3_ring 2 (some .int) 0 yX4_ring cX4_ring 2 0 [.int x] ver := by
  obtain ⟨rs, aq, zs, rw, ap, pk, hB, hP, h4⟩ := id hS
  obtain ⟨k1, k2, k3, k4, k5, k6, k7, hT, hG, hM, hcl, hdf, hfr⟩ := id hB
  have hn := hG.2.1
  obtain ⟨z, z1, z2, z3, z4⟩ := k7
  rcases nIk (n := z) x z1 with hx | ⟨k, hk, rfl⟩
  · exact ⟨_, _, _, _, _, _, _, c_X3_ring_out l D dA base n ad I J R hT x z z2 hx, c_X4_ring_out l D dA base n ad I J R hT x z z3 hx, sim_code hS 0⟩
  · exact ⟨_, _, _, _, _, _, _, c_X3_ring_in l D dA base n ad I J R hT k z z2 z1 hk, (c_X4_ring_in l D dA base n ad I J R hT k z z3 z1 hk).cong (by rw [z4 k hk]) rfl rfl rfl, sim_code hS 0⟩

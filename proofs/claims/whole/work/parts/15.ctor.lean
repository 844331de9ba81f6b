/-! constructors -/
theorem CLo.new {N : Nat → Nat} {I : Fi} {J : Fj} {R : Fr} (h : CLo N R) {kc : Nat} (hd : Dft I J R kc (N kc)) : CLo (upN N kc) R := fun c i k j t hi hr hs => by
  have hj : j < N t → j < upN N kc t := fun q => by unfold upN; split <;> omega
  by_cases hc : c = kc
  · subst hc
    unfold upN at hi
    rw [if_pos rfl] at hi
    by_cases h2 : i < N c
    · exact hj (h c i k j t h2 hr hs)
    · rw [show i = N c by omega, (hd k).2.2] at hr
      cases hr
  · unfold upN at hi
    rw [if_neg hc] at hi
    exact hj (h c i k j t hi hr hs)
theorem CLo.up {N : Nat → Nat} {R : Fr} (h : CLo N R) {c i k j t : Nat} (hs : sty c k = t + 2) (hj : j < N t) : CLo N (up3 R c i k (some j)) := fun c' i' k' j' t' hi hr hs' => by
  by_cases hc : c' = c ∧ i' = i ∧ k' = k
  · obtain ⟨rfl, rfl, rfl⟩ := hc
    rw [up3_s] at hr
    cases hr
    have : t' = t := by omega
    subst this
    exact hj
  · rw [up3_n _ _ _ _ _ hc] at hr
    exact h c' i' k' j' t' hi hr hs'
theorem Dft.upI {I : Fi} {J : Fj} {R : Fr} {c i : Nat} (h : Dft I J R c i) {c' i' k : Nat} {v : Int32} (hc : ¬ (c = c' ∧ i = i')) : Dft (up3 I c' i' k v) J R c i := fun q => ⟨by rw [up3_n _ _ _ _ _ (fun z => hc ⟨z.1, z.2.1⟩)]; exact (h q).1, (h q).2⟩
theorem Dft.upJ {I : Fi} {J : Fj} {R : Fr} {c i : Nat} (h : Dft I J R c i) {c' i' k : Nat} {v : Int64} (hc : ¬ (c = c' ∧ i = i')) : Dft I (up3 J c' i' k v) R c i := fun q => ⟨(h q).1, by rw [up3_n _ _ _ _ _ (fun z => hc ⟨z.1, z.2.1⟩)]; exact (h q).2.1, (h q).2.2⟩
theorem Dft.upR {I : Fi} {J : Fj} {R : Fr} {c i : Nat} (h : Dft I J R c i) {c' i' k : Nat} {v : Option Nat} (hc : ¬ (c = c' ∧ i = i')) : Dft I J (up3 R c' i' k v) c i := fun q => ⟨(h q).1, (h q).2.1, by rw [up3_n _ _ _ _ _ (fun z => hc ⟨z.1, z.2.1⟩)]; exact (h q).2.2⟩
theorem oi_2 : Cond.instanceMethod objectInit ∈ lw_gd := gd_in (by decide +kernel) rfl
theorem oi_3 : Cond.code objectInit ⟨#[0xb1]⟩ 1 none ∈ lw_gd := gd_in (by decide +kernel) rfl
theorem ac_I : Cond.arrayClass .int ∈ lw_gd := gd_in (by decide +kernel) rfl
theorem ac_J : Cond.arrayClass .long ∈ lw_gd := gd_in (by decide +kernel) rfl
theorem ac_Z : Cond.arrayClass .boolean ∈ lw_gd := gd_in (by decide +kernel) rfl
theorem ins_X0 : Cond.instantiable RX0 18 ∈ lw_gd := gd_in (by decide +kernel) rfl
theorem ins_X1 : Cond.instantiable RX1 2 ∈ lw_gd := gd_in (by decide +kernel) rfl
theorem ins_X2 : Cond.instantiable RX2 5 ∈ lw_gd := gd_in (by decide +kernel) rfl
theorem ins_X3 : Cond.instantiable RX3 6 ∈ lw_gd := gd_in (by decide +kernel) rfl
theorem ins_X4 : Cond.instantiable RX4 25 ∈ lw_gd := gd_in (by decide +kernel) rfl
theorem ini_X0 : Cond.initialized RX0 ∈ lw_gd := gd_in (by decide +kernel) rfl
theorem ini_X1 : Cond.initialized RX1 ∈ lw_gd := gd_in (by decide +kernel) rfl
theorem ini_X2 : Cond.initialized RX2 ∈ lw_gd := gd_in (by decide +kernel) rfl
theorem ini_X3 : Cond.initialized RX3 ∈ lw_gd := gd_in (by decide +kernel) rfl
theorem ini_X4 : Cond.initialized RX4 ∈ lw_gd := gd_in (by decide +kernel) rfl
theorem mo_X3_3 : Cond.methodLink RX3 3 objectInit ∈ lw_gd := gd_in (by decide +kernel) rfl
theorem mc_X3_9 : Cond.classLink RX3 9 RX0 ∈ lw_gd := gd_in (by decide +kernel) rfl
theorem ff_X3_11 : FOF RX3 11 0 0 (.array (.object "KeyGraph$Key")) := ⟨3, 6, RX3, TX3, rfl, rfl, by decide, gd_in (by decide +kernel) (by decide +kernel), rfl, by decide +kernel, rfl⟩
theorem mc_X3_15 : Cond.classLink RX3 15 RX1 ∈ lw_gd := gd_in (by decide +kernel) rfl
theorem ff_X3_17 : FOF RX3 17 0 3 (.array (.object "KeyGraph$Pile")) := ⟨3, 6, RX3, TX3, rfl, rfl, by decide, gd_in (by decide +kernel) (by decide +kernel), rfl, by decide +kernel, rfl⟩
theorem ff_X3_22 : FOF RX3 22 0 4 (.array .int) := ⟨3, 6, RX3, TX3, rfl, rfl, by decide, gd_in (by decide +kernel) (by decide +kernel), rfl, by decide +kernel, rfl⟩
theorem mo_X4_1 : Cond.methodLink RX4 1 objectInit ∈ lw_gd := gd_in (by decide +kernel) rfl
theorem ff_X4_7 : FOF RX4 7 11 3 (.array .int) := ⟨4, 25, RX4, TX4, rfl, rfl, by decide, gd_in (by decide +kernel) (by decide +kernel), rfl, by decide +kernel, rfl⟩
theorem ff_X4_13 : FOF RX4 13 11 4 (.array .int) := ⟨4, 25, RX4, TX4, rfl, rfl, by decide, gd_in (by decide +kernel) (by decide +kernel), rfl, by decide +kernel, rfl⟩
theorem ff_X4_16 : FOF RX4 16 11 5 (.array .int) := ⟨4, 25, RX4, TX4, rfl, rfl, by decide, gd_in (by decide +kernel) (by decide +kernel), rfl, by decide +kernel, rfl⟩
theorem ff_X4_19 : FOF RX4 19 11 6 (.array .int) := ⟨4, 25, RX4, TX4, rfl, rfl, by decide, gd_in (by decide +kernel) (by decide +kernel), rfl, by decide +kernel, rfl⟩
theorem ff_X4_22 : FOF RX4 22 11 7 (.array .int) := ⟨4, 25, RX4, TX4, rfl, rfl, by decide, gd_in (by decide +kernel) (by decide +kernel), rfl, by decide +kernel, rfl⟩
theorem ff_X4_25 : FOF RX4 25 11 8 (.array .int) := ⟨4, 25, RX4, TX4, rfl, rfl, by decide, gd_in (by decide +kernel) (by decide +kernel), rfl, by decide +kernel, rfl⟩
theorem ff_X4_28 : FOF RX4 28 11 9 (.array .int) := ⟨4, 25, RX4, TX4, rfl, rfl, by decide, gd_in (by decide +kernel) (by decide +kernel), rfl, by decide +kernel, rfl⟩
theorem ff_X4_31 : FOF RX4 31 11 10 (.array .int) := ⟨4, 25, RX4, TX4, rfl, rfl, by decide, gd_in (by decide +kernel) (by decide +kernel), rfl, by decide +kernel, rfl⟩
theorem ff_X4_34 : FOF RX4 34 11 11 (.array .int) := ⟨4, 25, RX4, TX4, rfl, rfl, by decide, gd_in (by decide +kernel) (by decide +kernel), rfl, by decide +kernel, rfl⟩
theorem ff_X4_37 : FOF RX4 37 11 12 (.array .int) := ⟨4, 25, RX4, TX4, rfl, rfl, by decide, gd_in (by decide +kernel) (by decide +kernel), rfl, by decide +kernel, rfl⟩
theorem ff_X4_40 : FOF RX4 40 11 13 (.array .int) := ⟨4, 25, RX4, TX4, rfl, rfl, by decide, gd_in (by decide +kernel) (by decide +kernel), rfl, by decide +kernel, rfl⟩
theorem ff_X4_43 : FOF RX4 43 11 14 (.array .long) := ⟨4, 25, RX4, TX4, rfl, rfl, by decide, gd_in (by decide +kernel) (by decide +kernel), rfl, by decide +kernel, rfl⟩
theorem ff_X4_47 : FOF RX4 47 11 15 (.array .boolean) := ⟨4, 25, RX4, TX4, rfl, rfl, by decide, gd_in (by decide +kernel) (by decide +kernel), rfl, by decide +kernel, rfl⟩
theorem ff_X4_51 : FOF RX4 51 11 16 (.array .boolean) := ⟨4, 25, RX4, TX4, rfl, rfl, by decide, gd_in (by decide +kernel) (by decide +kernel), rfl, by decide +kernel, rfl⟩
theorem ff_X4_54 : FOF RX4 54 11 17 (.array .int) := ⟨4, 25, RX4, TX4, rfl, rfl, by decide, gd_in (by decide +kernel) (by decide +kernel), rfl, by decide +kernel, rfl⟩
theorem ff_X4_57 : FOF RX4 57 11 18 (.array .int) := ⟨4, 25, RX4, TX4, rfl, rfl, by decide, gd_in (by decide +kernel) (by decide +kernel), rfl, by decide +kernel, rfl⟩
theorem ff_X4_60 : FOF RX4 60 11 19 (.array .int) := ⟨4, 25, RX4, TX4, rfl, rfl, by decide, gd_in (by decide +kernel) (by decide +kernel), rfl, by decide +kernel, rfl⟩
theorem ff_X4_63 : FOF RX4 63 11 20 (.array .int) := ⟨4, 25, RX4, TX4, rfl, rfl, by decide, gd_in (by decide +kernel) (by decide +kernel), rfl, by decide +kernel, rfl⟩
theorem ff_X4_66 : FOF RX4 66 11 21 (.array .boolean) := ⟨4, 25, RX4, TX4, rfl, rfl, by decide, gd_in (by decide +kernel) (by decide +kernel), rfl, by decide +kernel, rfl⟩
theorem ff_X4_69 : FOF RX4 69 11 22 (.array .int) := ⟨4, 25, RX4, TX4, rfl, rfl, by decide, gd_in (by decide +kernel) (by decide +kernel), rfl, by decide +kernel, rfl⟩
theorem ff_X4_72 : FOF RX4 72 11 24 (.array .boolean) := ⟨4, 25, RX4, TX4, rfl, rfl, by decide, gd_in (by decide +kernel) (by decide +kernel), rfl, by decide +kernel, rfl⟩
theorem mo_X0_3 : Cond.methodLink RX0 3 objectInit ∈ lw_gd := gd_in (by decide +kernel) rfl
theorem mc_X0_9 : Cond.classLink RX0 9 RX0 ∈ lw_gd := gd_in (by decide +kernel) rfl
theorem ff_X0_11 : FOF RX0 11 4 2 (.array (.object "KeyGraph$Key")) := ⟨0, 18, RX0, TX0, rfl, rfl, by decide, gd_in (by decide +kernel) (by decide +kernel), rfl, by decide +kernel, rfl⟩
theorem ff_X0_15 : FOF RX0 15 4 12 (.array .int) := ⟨0, 18, RX0, TX0, rfl, rfl, by decide, gd_in (by decide +kernel) (by decide +kernel), rfl, by decide +kernel, rfl⟩
theorem mc_X0_19 : Cond.classLink RX0 19 RX2 ∈ lw_gd := gd_in (by decide +kernel) rfl
theorem ff_X0_22 : FOF RX0 22 4 17 (.object "KeyGraph$Work") := ⟨0, 18, RX0, TX0, rfl, rfl, by decide, gd_in (by decide +kernel) (by decide +kernel), rfl, by decide +kernel, rfl⟩
theorem ff_X0_26 : FOF RX0 26 4 0 .int := ⟨0, 18, RX0, TX0, rfl, rfl, by decide, gd_in (by decide +kernel) (by decide +kernel), rfl, by decide +kernel, rfl⟩
theorem ff_X0_30 : FOF RX0 30 4 1 .int := ⟨0, 18, RX0, TX0, rfl, rfl, by decide, gd_in (by decide +kernel) (by decide +kernel), rfl, by decide +kernel, rfl⟩
theorem mo_X1_3 : Cond.methodLink RX1 3 objectInit ∈ lw_gd := gd_in (by decide +kernel) rfl
theorem mc_X1_9 : Cond.classLink RX1 9 RX0 ∈ lw_gd := gd_in (by decide +kernel) rfl
theorem ff_X1_11 : FOF RX1 11 9 0 (.array (.object "KeyGraph$Key")) := ⟨1, 2, RX1, TX1, rfl, rfl, by decide, gd_in (by decide +kernel) (by decide +kernel), rfl, by decide +kernel, rfl⟩
theorem mo_X2_3 : Cond.methodLink RX2 3 objectInit ∈ lw_gd := gd_in (by decide +kernel) rfl
theorem ff_X2_9 : FOF RX2 9 7 2 (.array .int) := ⟨2, 5, RX2, TX2, rfl, rfl, by decide, gd_in (by decide +kernel) (by decide +kernel), rfl, by decide +kernel, rfl⟩
theorem mi_X3_32 : Cond.methodLink RX3 32 yX0_init ∈ lw_gd := gd_in (by decide +kernel) rfl
theorem yi_X0_init : YOI yX0_init cX0_init 3 2 := ⟨gd_in (by decide +kernel) rfl, gd_in (by decide +kernel) rfl, gd_in (by decide +kernel) rfl, ⟨by decide +kernel, by decide +kernel, by decide +kernel⟩, rfl⟩
theorem yi_X1_init : YOI yX1_init cX1_init 1 0 := ⟨gd_in (by decide +kernel) rfl, gd_in (by decide +kernel) rfl, gd_in (by decide +kernel) rfl, ⟨by decide +kernel, by decide +kernel, by decide +kernel⟩, rfl⟩
theorem yi_X2_init : YOI yX2_init cX2_init 1 0 := ⟨gd_in (by decide +kernel) rfl, gd_in (by decide +kernel) rfl, gd_in (by decide +kernel) rfl, ⟨by decide +kernel, by decide +kernel, by decide +kernel⟩, rfl⟩
theorem yi_X3_init : YOI yX3_init cX3_init 2 0 := ⟨gd_in (by decide +kernel) rfl, gd_in (by decide +kernel) rfl, gd_in (by decide +kernel) rfl, ⟨by decide +kernel, by decide +kernel, by decide +kernel⟩, rfl⟩
theorem yi_X4_init : YOI yX4_init cX4_init 1 0 := ⟨gd_in (by decide +kernel) rfl, gd_in (by decide +kernel) rfl, gd_in (by decide +kernel) rfl, ⟨by decide +kernel, by decide +kernel, by decide +kernel⟩, rfl⟩
set_option maxRecDepth 100000 in
set_option maxHeartbeats 4000000 in
theorem c_X2_init (l : Launch) (D : va_G) (dA : Nat → ClassId) (base : Nat) (ad : Fa) (N : Nat → Nat) (I : Fi) (J : Fj) (R : Fr) (i : Nat) (hi : i < N 7) (hcl : CLo N R) (hd : Dft I J R 8 (N 8)) : CTx l D dA base yX2_init cX2_init 1 none 1 1 8 [.ref (ad 7 i)] ad N I J R (fun r ad2 N2 I2 J2 R2 => r = none ∧ (∀ c i, i < N c → ad2 c i = ad c i) ∧ N2 = upN N 8 ∧ I2 = I ∧ J2 = J ∧ R2 = up3 R 7 i 2 (some (N 8))) := by
  refine CTx.of 0 (L0 := [some (.ref (ad 7 i))]) (by decide +kernel) rfl (Nat.le_of_ble_eq_true rfl) ?_
  intro p e s m args below meth c C hX hnm
  refine x_aload_n C dX2_init_0 rfl ?_
  refine x_objInit C mo_X2_3 (by decide) (Nat.le_of_ble_eq_true rfl) dX2_init_1 oi_2 oi_3 ?_
  refine x_aload_n C dX2_init_4 rfl ?_
  refine x_bipush C 8 (by decide) dX2_init_5 ?_
  refine x_newP C (atype := .int) (kc := 8) rfl rfl rfl (by decide) (fun h => h) (fun k => rfl) ac_I (by decide) hcl hd (by decide) (by decide) dX2_init_7 (fun ad1 hA => ?_)
  rw [← hA 7 i hi]
  refine x_putFR C hnm ff_X2_9 rfl (by first | assumption | exact Nat.one_pos) rfl rfl dX2_init_9 ?_
  exact x_vret C (⟨rfl, hA, rfl, rfl, rfl, rfl⟩) dX2_init_12

set_option maxRecDepth 100000 in
set_option maxHeartbeats 4000000 in
theorem c_X1_init (l : Launch) (D : va_G) (dA : Nat → ClassId) (base : Nat) (ad : Fa) (N : Nat → Nat) (I : Fi) (J : Fj) (R : Fr) (i : Nat) (hi : i < N 9) (hcl : CLo N R) (hd : Dft I J R 10 (N 10)) : CTx l D dA base yX1_init cX1_init 1 none 1 1 40 [.ref (ad 9 i)] ad N I J R (fun r ad2 N2 I2 J2 R2 => r = none ∧ (∀ c i, i < N c → ad2 c i = ad c i) ∧ N2 = upN N 10 ∧ I2 = I ∧ J2 = J ∧ R2 = up3 R 9 i 0 (some (N 10))) := by
  refine CTx.of 0 (L0 := [some (.ref (ad 9 i))]) (by decide +kernel) rfl (Nat.le_of_ble_eq_true rfl) ?_
  intro p e s m args below meth c C hX hnm
  refine x_aload_n C dX1_init_0 rfl ?_
  refine x_objInit C mo_X1_3 (by decide) (Nat.le_of_ble_eq_true rfl) dX1_init_1 oi_2 oi_3 ?_
  refine x_aload_n C dX1_init_4 rfl ?_
  refine x_bipush C 40 (by decide) dX1_init_5 ?_
  refine x_newA C (kc := 10) rfl rfl rfl (by decide) (fun k => rfl) mc_X1_9 hX.1 (by decide) hcl hd (by decide) (by decide) dX1_init_7 (fun ad1 hA => ?_)
  rw [← hA 9 i hi]
  refine x_putFR C hnm ff_X1_11 rfl (by first | assumption | exact Nat.one_pos) rfl rfl dX1_init_10 ?_
  exact x_vret C (⟨rfl, hA, rfl, rfl, rfl, rfl⟩) dX1_init_13

theorem upN_l {N : Nat → Nat} {kc c i : Nat} (h : i < N c) : i < upN N kc c := by unfold upN; split <;> omega
theorem upN_s {N : Nat → Nat} {kc i : Nat} (h : N kc = i) : i < upN N kc kc := by unfold upN; rw [if_pos rfl]; omega
theorem upN_n {N : Nat → Nat} {kc c i : Nat} (hc : c ≠ kc) (h : N c = i) : upN N kc c = i := by unfold upN; rw [if_neg hc]; exact h
set_option maxRecDepth 100000 in
set_option maxHeartbeats 4000000 in
theorem c_X0_init (l : Launch) (D : va_G) (dA : Nat → ClassId) (base : Nat) (ad : Fa) (N : Nat → Nat) (I : Fi) (J : Fj) (R : Fr) (i : Nat) (nu fn : Int32) (hi : i < N 4) (h5 : N 5 = i) (h6 : N 6 = i) (h7 : N 7 = i) (h8 : N 8 = i) (hcl : CLo N R) (hd5 : Dft I J R 5 i) (hd6 : Dft I J R 6 i) (hd7 : Dft I J R 7 i) (hd8 : Dft I J R 8 i) : CTx l D dA base yX0_init cX0_init 3 none 2 4 29 [.ref (ad 4 i), .int nu, .int fn] ad N I J R (fun r ad2 N2 I2 J2 R2 => r = none ∧ (∀ c i, i < N c → ad2 c i = ad c i) ∧ N2 = upN (upN (upN (upN N 5) 6) 7) 8 ∧ I2 = up3 (up3 I 4 i 0 nu) 4 i 1 fn ∧ J2 = up3 J 4 i 4 (1 <<< (nu.toInt64 &&& 63)) ∧ R2 = up3 (up3 (up3 (up3 R 4 i 2 (some i)) 4 i 12 (some i)) 7 i 2 (some i)) 4 i 17 (some i)) := by
  refine CTx.of 0 (L0 := [some (.ref (ad 4 i)), some (.int nu), some (.int fn)]) (by decide +kernel) rfl (Nat.le_of_ble_eq_true rfl) ?_
  intro p e s m args below meth c C hX hnm
  have hc1 : CLo (upN N 5) (up3 R 4 i 2 (some i)) := (hcl.new (by rw [h5]; exact hd5)).up rfl (upN_s h5)
  have hc2 : CLo (upN (upN N 5) 6) (up3 (up3 R 4 i 2 (some i)) 4 i 12 (some i)) := (hc1.new (I := I) (J := J) (kc := 6) (by rw [upN_n (by decide) h6]; exact hd6.upR (fun z => absurd z.1 (by decide)))).up rfl (upN_s (upN_n (by decide) h6))
  have hd72 : Dft I J (up3 (up3 R 4 i 2 (some i)) 4 i 12 (some i)) 7 i := (hd7.upR (fun z => absurd z.1 (by decide))).upR (fun z => absurd z.1 (by decide))
  have hn7 : upN (upN N 5) 6 7 = i := upN_n (by decide) (upN_n (by decide) h7)
  have hc3 : CLo (upN (upN (upN N 5) 6) 7) (up3 (up3 R 4 i 2 (some i)) 4 i 12 (some i)) := hc2.new (I := I) (J := J) (kc := 7) (by rw [hn7]; exact hd72)
  have hn8 : upN (upN (upN N 5) 6) 7 8 = i := upN_n (by decide) (upN_n (by decide) (upN_n (by decide) h8))
  have hi1 : i < upN N 5 4 := upN_l hi
  have hi2 : i < upN (upN N 5) 6 4 := upN_l hi1
  have hi3 : i < upN (upN (upN N 5) 6) 7 4 := upN_l hi2
  have hi4 : i < upN (upN (upN (upN N 5) 6) 7) 8 4 := upN_l hi3
  have hi7 : i < upN (upN (upN N 5) 6) 7 7 := upN_s hn7
  refine x_aload_n C dX0_init_0 rfl ?_
  refine x_objInit C mo_X0_3 (by decide) (Nat.le_of_ble_eq_true rfl) dX0_init_1 oi_2 oi_3 ?_
  refine x_aload_n C dX0_init_4 rfl ?_
  refine x_bipush C 8 (by decide) dX0_init_5 ?_
  refine x_newA C (kc := 5) rfl rfl rfl (by decide) (fun k => rfl) mc_X0_9 hX.1 (by decide) hcl (by rw [h5]; exact hd5) (by decide) (by decide) dX0_init_7 (fun ad1 hA1 => ?_)
  rw [← hA1 4 i hi, h5]
  refine x_putFR C hnm ff_X0_11 rfl (by first | assumption | exact Nat.one_pos) rfl rfl dX0_init_10 ?_
  refine x_aload_n C dX0_init_13 rfl ?_
  refine x_bipush C 8 (by decide) dX0_init_14 ?_
  refine x_newP C (atype := .int) (kc := 6) rfl rfl rfl (by decide) (fun h => h) (fun k => rfl) ac_I (by decide) hc1 (by rw [upN_n (by decide) h6]; exact hd6.upR (fun z => absurd z.1 (by decide))) (by decide) (by decide) dX0_init_16 (fun ad2 hA2 => ?_)
  rw [← hA2 4 i hi1, upN_n (by decide) h6]
  refine x_putFR C hnm ff_X0_15 rfl (by first | assumption | exact Nat.one_pos) rfl rfl dX0_init_18 ?_
  refine x_aload_n C dX0_init_21 rfl ?_
  refine x_new C (kc := 7) tyX2 rfl rfl tyX2_ok (by decide) mc_X0_19 ins_X2 ini_X2 hc2 (by rw [hn7]; exact hd72) (by decide) (by decide) dX0_init_22 (fun ad3 hA3 => ?_)
  rw [← hA3 4 i hi2, hn7]
  refine x_dup C rfl dX0_init_25 ?_
  refine x_callIN C hX yi_X2_init hX.2.2.2 (c_X2_init l D dA base ad3 _ I J _ i hi7 hc3 (by rw [hn8]; exact (hd8.upR (fun z => absurd z.1 (by decide))).upR (fun z => absurd z.1 (by decide)))) dX0_init_26 rfl rfl (Nat.le_of_ble_eq_true rfl) ⟨by decide, by decide⟩ ⟨by decide, by decide⟩ ?_
  intro r ad4 N4 I4 J4 R4 h4
  obtain ⟨rfl, hA4, rfl, rfl, rfl, rfl⟩ := h4
  simp only [Option.toList, List.nil_append]
  rw [← hA4 4 i hi3, ← hA4 7 i hi7, hn8]
  refine x_putFR C hnm ff_X0_22 rfl (by first | assumption | exact Nat.one_pos) rfl rfl dX0_init_29 ?_
  refine x_aload_n C dX0_init_32 rfl ?_
  refine x_iload_n C dX0_init_33 rfl ?_
  refine x_putFI C hnm ff_X0_26 rfl (by first | assumption | exact Nat.one_pos) dX0_init_34 ?_
  refine x_aload_n C dX0_init_37 rfl ?_
  refine x_iload_n C dX0_init_38 rfl ?_
  refine x_putFI C hnm ff_X0_30 rfl (by first | assumption | exact Nat.one_pos) dX0_init_39 ?_
  refine x_aload_n C dX0_init_42 rfl ?_
  refine x_lconst C 1 (by decide) dX0_init_43 ?_
  refine x_iload_n C dX0_init_44 rfl ?_
  refine x_lshl C dX0_init_45 ?_
  refine x_putJ C g_X0_33 rfl (by first | assumption | exact Nat.one_pos) dX0_init_46 ?_
  exact x_vret C (⟨rfl, fun c i9 h9 => (hA4 c i9 (upN_l (upN_l (upN_l h9)))).trans ((hA3 c i9 (upN_l (upN_l h9))).trans ((hA2 c i9 (upN_l h9)).trans (hA1 c i9 h9))), rfl, rfl, rfl, rfl⟩) dX0_init_49

/-! the constructors of KeyGraph and of the reference -/
def zI : Fi := fun _ _ _ => 0
def zJ : Fj := fun _ _ _ => 0
def zR : Fr := fun _ _ _ => none
def NL (t c : Nat) : Nat := match c with
  | 0 => 1
  | 1 => 1
  | 2 => 1
  | 9 => t
  | 10 => t
  | _ => 0
def RQ (t : Nat) : Fr := fun c i k => if c = 0 ∧ i = 0 ∧ (k = 0 ∨ k = 3) then some 0 else if c = 2 ∧ i = 0 ∧ k < t then some k else if c = 9 ∧ i < t ∧ k = 0 then some i else none
theorem NL_s (t : Nat) : upN (upN (NL t) 9) 10 = NL (t + 1) := by
  funext c
  by_cases h9 : c = 9
  · subst h9; rfl
  by_cases h10 : c = 10
  · subst h10; rfl
  simp only [upN, h9, h10, if_false]
  unfold NL
  split <;> first | rfl | omega
theorem RQ_s (t : Nat) : up3 (up3 (RQ t) 9 t 0 (some t)) 2 0 t (some t) = RQ (t + 1) := by
  funext c i k
  by_cases h2 : c = 2 ∧ i = 0
  · obtain ⟨rfl, rfl⟩ := h2
    by_cases hk : k = t
    · subst hk; simp [up3, RQ]
    · rw [up3_k _ _ _ _ _ hk, up3_c _ _ _ _ _ (by decide)]
      by_cases h3 : k < t
      · simp [RQ, h3, Nat.lt_succ_of_lt h3]
      · simp [RQ, h3, show ¬ k < t + 1 by omega]
  · rw [up3_n _ _ _ _ _ (fun z => h2 ⟨z.1, z.2.1⟩)]
    by_cases h9 : c = 9 ∧ k = 0
    · obtain ⟨rfl, rfl⟩ := h9
      by_cases hi : i = t
      · subst hi; simp [up3, RQ]
      · rw [up3_i _ _ _ _ _ hi]
        by_cases h3 : i < t
        · simp [RQ, h3, Nat.lt_succ_of_lt h3]
        · simp [RQ, h3, show ¬ i < t + 1 by omega]
    · rw [up3_n _ _ _ _ _ (fun z => h9 ⟨z.1, z.2.2⟩)]
      simp only [RQ]
      have e1 : ∀ u, ¬ (c = 2 ∧ i = 0 ∧ k < u) := fun u z => h2 ⟨z.1, z.2.1⟩
      have e2 : ∀ u, ¬ (c = 9 ∧ i < u ∧ k = 0) := fun u z => h9 ⟨z.1, z.2.2⟩
      simp only [e1, e2, if_false]
theorem RQ_cl (t : Nat) : CLo (NL t) (RQ t) := fun c i k j u hi hr hs => by
  simp only [RQ] at hr
  split at hr
  · rename_i h
    obtain ⟨rfl, rfl, rfl | rfl⟩ := h
    · cases hr
      have : u = 1 := by have : sty 0 0 = 3 := rfl; omega
      subst this; exact Nat.one_pos
    · cases hr
      have : u = 2 := by have : sty 0 3 = 4 := rfl; omega
      subst this; exact Nat.one_pos
  · split at hr
    · rename_i h
      obtain ⟨rfl, rfl, hk⟩ := h
      cases hr
      have : u = 9 := by have : sty 2 k = 11 := rfl; omega
      subst this; exact hk
    · split at hr
      · rename_i h
        obtain ⟨rfl, hk, rfl⟩ := h
        cases hr
        have : u = 10 := by have : sty 9 0 = 12 := rfl; omega
        subst this; exact hk
      · cases hr
set_option maxRecDepth 100000 in
set_option maxHeartbeats 4000000 in
theorem c_X3_init (l : Launch) (D : va_G) (dA : Nat → ClassId) (base : Nat) (ad : Fa) : CTx l D dA base yX3_init cX3_init 2 none 2 13 295 [.ref (ad 0 0)] ad (upN (fun _ => 0) 0) zI zJ zR (fun r ad2 N2 I2 J2 R2 => r = none ∧ (∀ c i, i < upN (fun _ => 0) 0 c → ad2 c i = ad c i) ∧ N2 = upN (NL 5) 3 ∧ I2 = zI ∧ J2 = zJ ∧ R2 = up3 (RQ 5) 0 0 4 (some 0)) := by
  refine CTx.of 1 (L0 := [some (.ref (ad 0 0)), none]) (by decide +kernel) rfl (Nat.le_of_ble_eq_true rfl) ?_
  intro p e s m args below meth c C hX hnm
  have loop : ∀ (f t : Nat), t + f = 5 → ∀ ad1 : Fa, ad1 0 0 = ad 0 0 → GX p l e (rmX 2 13 295) s m args below meth c (MQ below (CQ D dA base (fun r ad2 N2 I2 J2 R2 => r = none ∧ (∀ c i, i < upN (fun _ => 0) 0 c → ad2 c i = ad c i) ∧ N2 = upN (NL 5) 3 ∧ I2 = zI ∧ J2 = zJ ∧ R2 = up3 (RQ 5) 0 0 4 (some 0))) args s 13 295 (fun q => base ≤ q)) D dA base 2 ad1 (NL t) zI zJ (RQ t) (2 + 2 * t) (45 + 42 * t) 23 [some (.ref (ad1 0 0)), some (.int (nI t))] [] := by
    intro f
    induction f with
    | zero =>
      intro t ht ad1 he
      have ht2 : t = 5 := by omega
      subst ht2
      refine x_iload_n C dX3_init_23 rfl ?_
      refine x_aload_n C dX3_init_24 rfl ?_
      refine x_getR C f_X3_17 rfl (j := 0) (by simp [RQ]) Nat.one_pos dX3_init_25 ?_
      refine x_alen C 5 rfl rfl (by decide) (by first | assumption | exact Nat.one_pos) dX3_init_28 ?_
      refine x_icmp_ge C 51 dX3_init_29 (by decide) (fun h29 => ?_) (fun h29 => ?_)
      · skip
        refine x_aload_n C dX3_init_51 rfl ?_
        refine x_bipush C 40 (by decide) dX3_init_52 ?_
        refine x_newP C (atype := .int) (kc := 3) rfl rfl rfl (by decide) (fun h => h) (fun k => rfl) ac_I (by decide) (RQ_cl 5) (fun k => ⟨rfl, rfl, by simp [RQ]⟩) (by decide) (by decide) dX3_init_54 (fun ad3 hA3 => ?_)
        rw [← hA3 0 0 Nat.one_pos]
        refine x_putFR C hnm ff_X3_22 rfl (by first | assumption | exact Nat.one_pos) rfl rfl dX3_init_56 ?_
        exact x_vret C (⟨rfl, fun c i h9 => by (have hc : c = 0 ∧ i = 0 := (by by_cases hc : c = 0 <;> simp [upN, hc] at h9 <;> omega); obtain ⟨rfl, rfl⟩ := hc; exact (hA3 0 0 Nat.one_pos).trans he), rfl, rfl, rfl, rfl⟩) dX3_init_59
      · skip
        exact absurd (Int32.le_refl _) h29
    | succ f ih =>
      intro t ht ad1 he
      have ht5 : t < 5 := by omega
      refine x_iload_n C dX3_init_23 rfl ?_
      refine x_aload_n C dX3_init_24 rfl ?_
      refine x_getR C f_X3_17 rfl (j := 0) (by simp [RQ]) Nat.one_pos dX3_init_25 ?_
      refine x_alen C 5 rfl rfl (by decide) (by first | assumption | exact Nat.one_pos) dX3_init_28 ?_
      refine x_icmp_ge C 51 dX3_init_29 (by decide) (fun h29 => ?_) (fun h29 => ?_)
      · skip
        exact absurd h29 (nI_ge (b := 5) ht5 (by decide))
      · skip
        refine x_aload_n C dX3_init_32 rfl ?_
        refine x_getR C f_X3_17 rfl (j := 0) (by simp [RQ]) Nat.one_pos dX3_init_33 ?_
        refine x_iload_n C dX3_init_36 rfl ?_
        refine x_new C (kc := 9) tyX1 rfl rfl tyX1_ok (by decide) mc_X3_15 ins_X1 ini_X1 (RQ_cl t) (fun k => ⟨rfl, rfl, by (show RQ t 9 t k = none); simp [RQ]⟩) (show 2 + 2 * t + 1 ≤ 13 by omega) (show 45 + 42 * t + 2 ≤ 295 by omega) dX3_init_37 (fun ad2 hA2 => ?_)
        rw [← hA2 0 0 Nat.one_pos, ← hA2 2 0 Nat.one_pos]
        refine x_dup C rfl dX3_init_40 ?_
        refine x_callIN C hX yi_X1_init hX.2.2.1 (c_X1_init l D dA base ad2 (upN (NL t) 9) zI zJ (RQ t) t (upN_s rfl) ((RQ_cl t).new (I := zI) (J := zJ) (fun k => ⟨rfl, rfl, by (show RQ t 9 t k = none); simp [RQ]⟩)) (fun k => ⟨rfl, rfl, by (show RQ t 10 t k = none); simp [RQ]⟩)) dX3_init_41 rfl rfl (Nat.le_of_ble_eq_true rfl) ⟨by decide, by decide⟩ (show 2 + 2 * t + 1 + 1 ≤ 13 ∧ 45 + 42 * t + 2 + 40 ≤ 295 by omega) ?_
        intro r ad3 N3 I3 J3 R3 hpo
        obtain ⟨rfl, hA3, rfl, rfl, rfl, rfl⟩ := hpo
        simp only [Option.toList, List.nil_append]
        rw [NL_s, ← hA3 0 0 Nat.one_pos, ← hA3 2 0 Nat.one_pos]
        have e9 : ad2 9 (NL t 9) = ad3 9 t := (hA3 9 t (upN_s rfl)).symm
        rw [e9]
        have ht9 : t < NL (t + 1) 9 := Nat.lt_succ_self t
        refine x_aastN C (t) rfl rfl rfl rfl rfl rfl (by first | assumption | exact Nat.one_pos) (by first | assumption | exact Nat.one_pos) ht5 (by decide) dX3_init_44 ?_
        refine x_iinc C _ dX3_init_45 rfl rfl (by decide) rfl rfl ?_
        refine x_goto C 23 dX3_init_48 (by decide) ?_
        have e0 : ad3 0 0 = ad 0 0 := (hA3 0 0 Nat.one_pos).trans ((hA2 0 0 Nat.one_pos).trans he)
        refine x_widen (nc2 := 2 + 2 * (t + 1)) (ns2 := 45 + 42 * (t + 1)) (by omega) (by omega) ?_
        exact x_eqL (ih (t + 1) (by omega) ad3 e0) rfl (by rw [← nI_1]; rfl) rfl rfl rfl (RQ_s t)
  have n1 : ∀ k, Dft zI zJ zR k 0 := fun k q => ⟨rfl, rfl, rfl⟩
  have c0 : CLo (upN (fun _ => 0) 0) zR := fun c i k j u hi hr hs => by cases hr
  have c1 : CLo (upN (upN (fun _ => 0) 0) 1) (up3 zR 0 0 0 (some 0)) := (c0.new (I := zI) (J := zJ) (kc := 1) (n1 1)).up rfl (upN_s rfl)
  have eN : upN (upN (upN (fun _ => 0) 0) 1) 2 = NL 0 := by
    funext c
    by_cases h0 : c = 0
    · subst h0; rfl
    by_cases h1 : c = 1
    · subst h1; rfl
    by_cases h2 : c = 2
    · subst h2; rfl
    simp only [upN, h0, h1, h2, if_false]
    unfold NL
    split <;> first | rfl | omega
  have eR : up3 (up3 zR 0 0 0 (some 0)) 0 0 3 (some 0) = RQ 0 := by
    funext c i k
    simp only [up3, RQ, zR, Nat.not_lt_zero, and_false, false_and, if_false]
    by_cases hc : c = 0 ∧ i = 0
    · obtain ⟨rfl, rfl⟩ := hc
      by_cases h3 : k = 3
      · subst h3; simp
      · by_cases h0 : k = 0
        · subst h0; simp
        · simp [h3, h0]
    · rw [if_neg (fun z => hc ⟨z.1, z.2.1⟩), if_neg (fun z => hc ⟨z.1, z.2.1⟩), if_neg (fun z => hc ⟨z.1, z.2.1⟩)]
  refine x_aload_n C dX3_init_0 rfl ?_
  refine x_objInit C mo_X3_3 (by decide) (Nat.le_of_ble_eq_true rfl) dX3_init_1 oi_2 oi_3 ?_
  refine x_aload_n C dX3_init_4 rfl ?_
  refine x_bipush C 40 (by decide) dX3_init_5 ?_
  refine x_newA C (kc := 1) rfl rfl rfl (by decide) (fun k => rfl) mc_X3_9 hX.1 (by decide) c0 (n1 1) (by decide) (by decide) dX3_init_7 (fun ad1 hA1 => ?_)
  rw [← hA1 0 0 Nat.one_pos]
  refine x_putFR C hnm ff_X3_11 rfl (by first | assumption | exact Nat.one_pos) rfl rfl dX3_init_10 ?_
  refine x_aload_n C dX3_init_13 rfl ?_
  refine x_iconst C 5 (by decide) dX3_init_14 ?_
  refine x_newA C (kc := 2) rfl rfl rfl (by decide) (fun k => rfl) mc_X3_15 hX.2.1 (by decide) c1 (fun k => ⟨rfl, rfl, by (show up3 zR 0 0 0 (some 0) 2 0 k = none); simp [up3, zR]⟩) (by decide) (by decide) dX3_init_15 (fun ad2 hA2 => ?_)
  rw [← hA2 0 0 Nat.one_pos]
  refine x_putFR C hnm ff_X3_17 rfl (by first | assumption | exact Nat.one_pos) rfl rfl dX3_init_18 ?_
  refine x_iconst C 0 (by decide) dX3_init_21 ?_
  refine x_istore_n C dX3_init_22 (by decide) rfl rfl ?_
  rw [eN]
  exact x_eqL (loop 5 0 (by omega) ad2 ((hA2 0 0 Nat.one_pos).trans (hA1 0 0 Nat.one_pos))) rfl rfl rfl rfl rfl eR

set_option maxRecDepth 100000 in
set_option maxHeartbeats 4000000 in
theorem c_X4_init (l : Launch) (D : va_G) (dA : Nat → ClassId) (base : Nat) (ad : Fa) (N : Nat → Nat) (I : Fi) (J : Fj) (R : Fr) (h11 : 0 < N 11) (hz : ∀ c, 23 ≤ c → N c = 0) (hcl : CLo N R) (hd : ∀ c, 23 ≤ c → Dft I J R c 0) : CTx l D dA base yX4_init cX4_init 1 none 1 21 3405 [.ref (ad 11 0)] ad N I J R (fun r ad2 N2 I2 J2 R2 => r = none ∧ (∀ c i, i < N c → ad2 c i = ad c i) ∧ N2 = (upN (upN (upN (upN (upN (upN (upN (upN (upN (upN (upN (upN (upN (upN (upN (upN (upN (upN (upN (upN (upN N 23) 24) 25) 26) 27) 28) 29) 30) 31) 32) 33) 34) 35) 36) 37) 38) 39) 40) 41) 42) 44) ∧ I2 = I ∧ J2 = J ∧ R2 = (up3 (up3 (up3 (up3 (up3 (up3 (up3 (up3 (up3 (up3 (up3 (up3 (up3 (up3 (up3 (up3 (up3 (up3 (up3 (up3 (up3 R 11 0 3 (some 0)) 11 0 4 (some 0)) 11 0 5 (some 0)) 11 0 6 (some 0)) 11 0 7 (some 0)) 11 0 8 (some 0)) 11 0 9 (some 0)) 11 0 10 (some 0)) 11 0 11 (some 0)) 11 0 12 (some 0)) 11 0 13 (some 0)) 11 0 14 (some 0)) 11 0 15 (some 0)) 11 0 16 (some 0)) 11 0 17 (some 0)) 11 0 18 (some 0)) 11 0 19 (some 0)) 11 0 20 (some 0)) 11 0 21 (some 0)) 11 0 22 (some 0)) 11 0 24 (some 0))) := by
  refine CTx.of 0 (L0 := [some (.ref (ad 11 0))]) (by decide +kernel) rfl (Nat.le_of_ble_eq_true rfl) ?_
  intro p e s m args below meth c C hX hnm
  refine x_aload_n C dX4_init_0 rfl ?_
  refine x_objInit C mo_X4_1 (by decide) (Nat.le_of_ble_eq_true rfl) dX4_init_1 oi_2 oi_3 ?_
  refine x_aload_n C dX4_init_4 rfl ?_
  refine x_bipush C 40 (by decide) dX4_init_5 ?_
  have hd0 : Dft I J R 23 (N 23) := by rw [show N 23 = 0 by simp [upN, hz]]; exact (fun q => ⟨(hd 23 (by decide) q).1, (hd 23 (by decide) q).2.1, by simp [up3, (hd 23 (by decide) q).2.2]⟩)
  refine x_newP C (atype := .int) (kc := 23) rfl rfl rfl (by decide) (fun h => h) (fun k => rfl) ac_I (by decide) hcl hd0 (by decide) (by decide) dX4_init_7 (fun ad1 hA1 => ?_)
  have h11_1 : 0 < (upN N 23) 11 := upN_l h11
  have hcl1 : CLo (upN N 23) (up3 R 11 0 3 (some 0)) := (hcl.new hd0).up rfl (upN_s (show N 23 = 0 by simp [upN, hz]))
  rw [← hA1 11 0 h11, show N 23 = 0 by simp [upN, hz]]
  refine x_putFR C hnm ff_X4_7 rfl (by first | assumption | exact Nat.one_pos) rfl rfl dX4_init_9 ?_
  refine x_aload_n C dX4_init_12 rfl ?_
  refine x_bipush C 40 (by decide) dX4_init_13 ?_
  have hd1 : Dft I J (up3 R 11 0 3 (some 0)) 24 ((upN N 23) 24) := by rw [show (upN N 23) 24 = 0 by simp [upN, hz]]; exact (fun q => ⟨(hd 24 (by decide) q).1, (hd 24 (by decide) q).2.1, by simp [up3, (hd 24 (by decide) q).2.2]⟩)
  refine x_newP C (atype := .int) (kc := 24) rfl rfl rfl (by decide) (fun h => h) (fun k => rfl) ac_I (by decide) hcl1 hd1 (by decide) (by decide) dX4_init_15 (fun ad2 hA2 => ?_)
  have h11_2 : 0 < (upN (upN N 23) 24) 11 := upN_l h11_1
  have hcl2 : CLo (upN (upN N 23) 24) (up3 (up3 R 11 0 3 (some 0)) 11 0 4 (some 0)) := (hcl1.new hd1).up rfl (upN_s (show (upN N 23) 24 = 0 by simp [upN, hz]))
  rw [← hA2 11 0 h11_1, show (upN N 23) 24 = 0 by simp [upN, hz]]
  refine x_putFR C hnm ff_X4_13 rfl (by first | assumption | exact Nat.one_pos) rfl rfl dX4_init_17 ?_
  refine x_aload_n C dX4_init_20 rfl ?_
  refine x_sipush C 320 (by decide) dX4_init_21 ?_
  have hd2 : Dft I J (up3 (up3 R 11 0 3 (some 0)) 11 0 4 (some 0)) 25 ((upN (upN N 23) 24) 25) := by rw [show (upN (upN N 23) 24) 25 = 0 by simp [upN, hz]]; exact (fun q => ⟨(hd 25 (by decide) q).1, (hd 25 (by decide) q).2.1, by simp [up3, (hd 25 (by decide) q).2.2]⟩)
  refine x_newP C (atype := .int) (kc := 25) rfl rfl rfl (by decide) (fun h => h) (fun k => rfl) ac_I (by decide) hcl2 hd2 (by decide) (by decide) dX4_init_24 (fun ad3 hA3 => ?_)
  have h11_3 : 0 < (upN (upN (upN N 23) 24) 25) 11 := upN_l h11_2
  have hcl3 : CLo (upN (upN (upN N 23) 24) 25) (up3 (up3 (up3 R 11 0 3 (some 0)) 11 0 4 (some 0)) 11 0 5 (some 0)) := (hcl2.new hd2).up rfl (upN_s (show (upN (upN N 23) 24) 25 = 0 by simp [upN, hz]))
  rw [← hA3 11 0 h11_2, show (upN (upN N 23) 24) 25 = 0 by simp [upN, hz]]
  refine x_putFR C hnm ff_X4_16 rfl (by first | assumption | exact Nat.one_pos) rfl rfl dX4_init_26 ?_
  refine x_aload_n C dX4_init_29 rfl ?_
  refine x_bipush C 40 (by decide) dX4_init_30 ?_
  have hd3 : Dft I J (up3 (up3 (up3 R 11 0 3 (some 0)) 11 0 4 (some 0)) 11 0 5 (some 0)) 26 ((upN (upN (upN N 23) 24) 25) 26) := by rw [show (upN (upN (upN N 23) 24) 25) 26 = 0 by simp [upN, hz]]; exact (fun q => ⟨(hd 26 (by decide) q).1, (hd 26 (by decide) q).2.1, by simp [up3, (hd 26 (by decide) q).2.2]⟩)
  refine x_newP C (atype := .int) (kc := 26) rfl rfl rfl (by decide) (fun h => h) (fun k => rfl) ac_I (by decide) hcl3 hd3 (by decide) (by decide) dX4_init_32 (fun ad4 hA4 => ?_)
  have h11_4 : 0 < (upN (upN (upN (upN N 23) 24) 25) 26) 11 := upN_l h11_3
  have hcl4 : CLo (upN (upN (upN (upN N 23) 24) 25) 26) (up3 (up3 (up3 (up3 R 11 0 3 (some 0)) 11 0 4 (some 0)) 11 0 5 (some 0)) 11 0 6 (some 0)) := (hcl3.new hd3).up rfl (upN_s (show (upN (upN (upN N 23) 24) 25) 26 = 0 by simp [upN, hz]))
  rw [← hA4 11 0 h11_3, show (upN (upN (upN N 23) 24) 25) 26 = 0 by simp [upN, hz]]
  refine x_putFR C hnm ff_X4_19 rfl (by first | assumption | exact Nat.one_pos) rfl rfl dX4_init_34 ?_
  refine x_aload_n C dX4_init_37 rfl ?_
  refine x_bipush C 40 (by decide) dX4_init_38 ?_
  have hd4 : Dft I J (up3 (up3 (up3 (up3 R 11 0 3 (some 0)) 11 0 4 (some 0)) 11 0 5 (some 0)) 11 0 6 (some 0)) 27 ((upN (upN (upN (upN N 23) 24) 25) 26) 27) := by rw [show (upN (upN (upN (upN N 23) 24) 25) 26) 27 = 0 by simp [upN, hz]]; exact (fun q => ⟨(hd 27 (by decide) q).1, (hd 27 (by decide) q).2.1, by simp [up3, (hd 27 (by decide) q).2.2]⟩)
  refine x_newP C (atype := .int) (kc := 27) rfl rfl rfl (by decide) (fun h => h) (fun k => rfl) ac_I (by decide) hcl4 hd4 (by decide) (by decide) dX4_init_40 (fun ad5 hA5 => ?_)
  have h11_5 : 0 < (upN (upN (upN (upN (upN N 23) 24) 25) 26) 27) 11 := upN_l h11_4
  have hcl5 : CLo (upN (upN (upN (upN (upN N 23) 24) 25) 26) 27) (up3 (up3 (up3 (up3 (up3 R 11 0 3 (some 0)) 11 0 4 (some 0)) 11 0 5 (some 0)) 11 0 6 (some 0)) 11 0 7 (some 0)) := (hcl4.new hd4).up rfl (upN_s (show (upN (upN (upN (upN N 23) 24) 25) 26) 27 = 0 by simp [upN, hz]))
  rw [← hA5 11 0 h11_4, show (upN (upN (upN (upN N 23) 24) 25) 26) 27 = 0 by simp [upN, hz]]
  refine x_putFR C hnm ff_X4_22 rfl (by first | assumption | exact Nat.one_pos) rfl rfl dX4_init_42 ?_
  refine x_aload_n C dX4_init_45 rfl ?_
  refine x_bipush C 40 (by decide) dX4_init_46 ?_
  have hd5 : Dft I J (up3 (up3 (up3 (up3 (up3 R 11 0 3 (some 0)) 11 0 4 (some 0)) 11 0 5 (some 0)) 11 0 6 (some 0)) 11 0 7 (some 0)) 28 ((upN (upN (upN (upN (upN N 23) 24) 25) 26) 27) 28) := by rw [show (upN (upN (upN (upN (upN N 23) 24) 25) 26) 27) 28 = 0 by simp [upN, hz]]; exact (fun q => ⟨(hd 28 (by decide) q).1, (hd 28 (by decide) q).2.1, by simp [up3, (hd 28 (by decide) q).2.2]⟩)
  refine x_newP C (atype := .int) (kc := 28) rfl rfl rfl (by decide) (fun h => h) (fun k => rfl) ac_I (by decide) hcl5 hd5 (by decide) (by decide) dX4_init_48 (fun ad6 hA6 => ?_)
  have h11_6 : 0 < (upN (upN (upN (upN (upN (upN N 23) 24) 25) 26) 27) 28) 11 := upN_l h11_5
  have hcl6 : CLo (upN (upN (upN (upN (upN (upN N 23) 24) 25) 26) 27) 28) (up3 (up3 (up3 (up3 (up3 (up3 R 11 0 3 (some 0)) 11 0 4 (some 0)) 11 0 5 (some 0)) 11 0 6 (some 0)) 11 0 7 (some 0)) 11 0 8 (some 0)) := (hcl5.new hd5).up rfl (upN_s (show (upN (upN (upN (upN (upN N 23) 24) 25) 26) 27) 28 = 0 by simp [upN, hz]))
  rw [← hA6 11 0 h11_5, show (upN (upN (upN (upN (upN N 23) 24) 25) 26) 27) 28 = 0 by simp [upN, hz]]
  refine x_putFR C hnm ff_X4_25 rfl (by first | assumption | exact Nat.one_pos) rfl rfl dX4_init_50 ?_
  refine x_aload_n C dX4_init_53 rfl ?_
  refine x_bipush C 40 (by decide) dX4_init_54 ?_
  have hd6 : Dft I J (up3 (up3 (up3 (up3 (up3 (up3 R 11 0 3 (some 0)) 11 0 4 (some 0)) 11 0 5 (some 0)) 11 0 6 (some 0)) 11 0 7 (some 0)) 11 0 8 (some 0)) 29 ((upN (upN (upN (upN (upN (upN N 23) 24) 25) 26) 27) 28) 29) := by rw [show (upN (upN (upN (upN (upN (upN N 23) 24) 25) 26) 27) 28) 29 = 0 by simp [upN, hz]]; exact (fun q => ⟨(hd 29 (by decide) q).1, (hd 29 (by decide) q).2.1, by simp [up3, (hd 29 (by decide) q).2.2]⟩)
  refine x_newP C (atype := .int) (kc := 29) rfl rfl rfl (by decide) (fun h => h) (fun k => rfl) ac_I (by decide) hcl6 hd6 (by decide) (by decide) dX4_init_56 (fun ad7 hA7 => ?_)
  have h11_7 : 0 < (upN (upN (upN (upN (upN (upN (upN N 23) 24) 25) 26) 27) 28) 29) 11 := upN_l h11_6
  have hcl7 : CLo (upN (upN (upN (upN (upN (upN (upN N 23) 24) 25) 26) 27) 28) 29) (up3 (up3 (up3 (up3 (up3 (up3 (up3 R 11 0 3 (some 0)) 11 0 4 (some 0)) 11 0 5 (some 0)) 11 0 6 (some 0)) 11 0 7 (some 0)) 11 0 8 (some 0)) 11 0 9 (some 0)) := (hcl6.new hd6).up rfl (upN_s (show (upN (upN (upN (upN (upN (upN N 23) 24) 25) 26) 27) 28) 29 = 0 by simp [upN, hz]))
  rw [← hA7 11 0 h11_6, show (upN (upN (upN (upN (upN (upN N 23) 24) 25) 26) 27) 28) 29 = 0 by simp [upN, hz]]
  refine x_putFR C hnm ff_X4_28 rfl (by first | assumption | exact Nat.one_pos) rfl rfl dX4_init_58 ?_
  refine x_aload_n C dX4_init_61 rfl ?_
  refine x_bipush C 40 (by decide) dX4_init_62 ?_
  have hd7 : Dft I J (up3 (up3 (up3 (up3 (up3 (up3 (up3 R 11 0 3 (some 0)) 11 0 4 (some 0)) 11 0 5 (some 0)) 11 0 6 (some 0)) 11 0 7 (some 0)) 11 0 8 (some 0)) 11 0 9 (some 0)) 30 ((upN (upN (upN (upN (upN (upN (upN N 23) 24) 25) 26) 27) 28) 29) 30) := by rw [show (upN (upN (upN (upN (upN (upN (upN N 23) 24) 25) 26) 27) 28) 29) 30 = 0 by simp [upN, hz]]; exact (fun q => ⟨(hd 30 (by decide) q).1, (hd 30 (by decide) q).2.1, by simp [up3, (hd 30 (by decide) q).2.2]⟩)
  refine x_newP C (atype := .int) (kc := 30) rfl rfl rfl (by decide) (fun h => h) (fun k => rfl) ac_I (by decide) hcl7 hd7 (by decide) (by decide) dX4_init_64 (fun ad8 hA8 => ?_)
  have h11_8 : 0 < (upN (upN (upN (upN (upN (upN (upN (upN N 23) 24) 25) 26) 27) 28) 29) 30) 11 := upN_l h11_7
  have hcl8 : CLo (upN (upN (upN (upN (upN (upN (upN (upN N 23) 24) 25) 26) 27) 28) 29) 30) (up3 (up3 (up3 (up3 (up3 (up3 (up3 (up3 R 11 0 3 (some 0)) 11 0 4 (some 0)) 11 0 5 (some 0)) 11 0 6 (some 0)) 11 0 7 (some 0)) 11 0 8 (some 0)) 11 0 9 (some 0)) 11 0 10 (some 0)) := (hcl7.new hd7).up rfl (upN_s (show (upN (upN (upN (upN (upN (upN (upN N 23) 24) 25) 26) 27) 28) 29) 30 = 0 by simp [upN, hz]))
  rw [← hA8 11 0 h11_7, show (upN (upN (upN (upN (upN (upN (upN N 23) 24) 25) 26) 27) 28) 29) 30 = 0 by simp [upN, hz]]
  refine x_putFR C hnm ff_X4_31 rfl (by first | assumption | exact Nat.one_pos) rfl rfl dX4_init_66 ?_
  refine x_aload_n C dX4_init_69 rfl ?_
  refine x_sipush C 320 (by decide) dX4_init_70 ?_
  have hd8 : Dft I J (up3 (up3 (up3 (up3 (up3 (up3 (up3 (up3 R 11 0 3 (some 0)) 11 0 4 (some 0)) 11 0 5 (some 0)) 11 0 6 (some 0)) 11 0 7 (some 0)) 11 0 8 (some 0)) 11 0 9 (some 0)) 11 0 10 (some 0)) 31 ((upN (upN (upN (upN (upN (upN (upN (upN N 23) 24) 25) 26) 27) 28) 29) 30) 31) := by rw [show (upN (upN (upN (upN (upN (upN (upN (upN N 23) 24) 25) 26) 27) 28) 29) 30) 31 = 0 by simp [upN, hz]]; exact (fun q => ⟨(hd 31 (by decide) q).1, (hd 31 (by decide) q).2.1, by simp [up3, (hd 31 (by decide) q).2.2]⟩)
  refine x_newP C (atype := .int) (kc := 31) rfl rfl rfl (by decide) (fun h => h) (fun k => rfl) ac_I (by decide) hcl8 hd8 (by decide) (by decide) dX4_init_73 (fun ad9 hA9 => ?_)
  have h11_9 : 0 < (upN (upN (upN (upN (upN (upN (upN (upN (upN N 23) 24) 25) 26) 27) 28) 29) 30) 31) 11 := upN_l h11_8
  have hcl9 : CLo (upN (upN (upN (upN (upN (upN (upN (upN (upN N 23) 24) 25) 26) 27) 28) 29) 30) 31) (up3 (up3 (up3 (up3 (up3 (up3 (up3 (up3 (up3 R 11 0 3 (some 0)) 11 0 4 (some 0)) 11 0 5 (some 0)) 11 0 6 (some 0)) 11 0 7 (some 0)) 11 0 8 (some 0)) 11 0 9 (some 0)) 11 0 10 (some 0)) 11 0 11 (some 0)) := (hcl8.new hd8).up rfl (upN_s (show (upN (upN (upN (upN (upN (upN (upN (upN N 23) 24) 25) 26) 27) 28) 29) 30) 31 = 0 by simp [upN, hz]))
  rw [← hA9 11 0 h11_8, show (upN (upN (upN (upN (upN (upN (upN (upN N 23) 24) 25) 26) 27) 28) 29) 30) 31 = 0 by simp [upN, hz]]
  refine x_putFR C hnm ff_X4_34 rfl (by first | assumption | exact Nat.one_pos) rfl rfl dX4_init_75 ?_
  refine x_aload_n C dX4_init_78 rfl ?_
  refine x_bipush C 40 (by decide) dX4_init_79 ?_
  have hd9 : Dft I J (up3 (up3 (up3 (up3 (up3 (up3 (up3 (up3 (up3 R 11 0 3 (some 0)) 11 0 4 (some 0)) 11 0 5 (some 0)) 11 0 6 (some 0)) 11 0 7 (some 0)) 11 0 8 (some 0)) 11 0 9 (some 0)) 11 0 10 (some 0)) 11 0 11 (some 0)) 32 ((upN (upN (upN (upN (upN (upN (upN (upN (upN N 23) 24) 25) 26) 27) 28) 29) 30) 31) 32) := by rw [show (upN (upN (upN (upN (upN (upN (upN (upN (upN N 23) 24) 25) 26) 27) 28) 29) 30) 31) 32 = 0 by simp [upN, hz]]; exact (fun q => ⟨(hd 32 (by decide) q).1, (hd 32 (by decide) q).2.1, by simp [up3, (hd 32 (by decide) q).2.2]⟩)
  refine x_newP C (atype := .int) (kc := 32) rfl rfl rfl (by decide) (fun h => h) (fun k => rfl) ac_I (by decide) hcl9 hd9 (by decide) (by decide) dX4_init_81 (fun ad10 hA10 => ?_)
  have h11_10 : 0 < (upN (upN (upN (upN (upN (upN (upN (upN (upN (upN N 23) 24) 25) 26) 27) 28) 29) 30) 31) 32) 11 := upN_l h11_9
  have hcl10 : CLo (upN (upN (upN (upN (upN (upN (upN (upN (upN (upN N 23) 24) 25) 26) 27) 28) 29) 30) 31) 32) (up3 (up3 (up3 (up3 (up3 (up3 (up3 (up3 (up3 (up3 R 11 0 3 (some 0)) 11 0 4 (some 0)) 11 0 5 (some 0)) 11 0 6 (some 0)) 11 0 7 (some 0)) 11 0 8 (some 0)) 11 0 9 (some 0)) 11 0 10 (some 0)) 11 0 11 (some 0)) 11 0 12 (some 0)) := (hcl9.new hd9).up rfl (upN_s (show (upN (upN (upN (upN (upN (upN (upN (upN (upN N 23) 24) 25) 26) 27) 28) 29) 30) 31) 32 = 0 by simp [upN, hz]))
  rw [← hA10 11 0 h11_9, show (upN (upN (upN (upN (upN (upN (upN (upN (upN N 23) 24) 25) 26) 27) 28) 29) 30) 31) 32 = 0 by simp [upN, hz]]
  refine x_putFR C hnm ff_X4_37 rfl (by first | assumption | exact Nat.one_pos) rfl rfl dX4_init_83 ?_
  refine x_aload_n C dX4_init_86 rfl ?_
  refine x_bipush C 40 (by decide) dX4_init_87 ?_
  have hd10 : Dft I J (up3 (up3 (up3 (up3 (up3 (up3 (up3 (up3 (up3 (up3 R 11 0 3 (some 0)) 11 0 4 (some 0)) 11 0 5 (some 0)) 11 0 6 (some 0)) 11 0 7 (some 0)) 11 0 8 (some 0)) 11 0 9 (some 0)) 11 0 10 (some 0)) 11 0 11 (some 0)) 11 0 12 (some 0)) 33 ((upN (upN (upN (upN (upN (upN (upN (upN (upN (upN N 23) 24) 25) 26) 27) 28) 29) 30) 31) 32) 33) := by rw [show (upN (upN (upN (upN (upN (upN (upN (upN (upN (upN N 23) 24) 25) 26) 27) 28) 29) 30) 31) 32) 33 = 0 by simp [upN, hz]]; exact (fun q => ⟨(hd 33 (by decide) q).1, (hd 33 (by decide) q).2.1, by simp [up3, (hd 33 (by decide) q).2.2]⟩)
  refine x_newP C (atype := .int) (kc := 33) rfl rfl rfl (by decide) (fun h => h) (fun k => rfl) ac_I (by decide) hcl10 hd10 (by decide) (by decide) dX4_init_89 (fun ad11 hA11 => ?_)
  have h11_11 : 0 < (upN (upN (upN (upN (upN (upN (upN (upN (upN (upN (upN N 23) 24) 25) 26) 27) 28) 29) 30) 31) 32) 33) 11 := upN_l h11_10
  have hcl11 : CLo (upN (upN (upN (upN (upN (upN (upN (upN (upN (upN (upN N 23) 24) 25) 26) 27) 28) 29) 30) 31) 32) 33) (up3 (up3 (up3 (up3 (up3 (up3 (up3 (up3 (up3 (up3 (up3 R 11 0 3 (some 0)) 11 0 4 (some 0)) 11 0 5 (some 0)) 11 0 6 (some 0)) 11 0 7 (some 0)) 11 0 8 (some 0)) 11 0 9 (some 0)) 11 0 10 (some 0)) 11 0 11 (some 0)) 11 0 12 (some 0)) 11 0 13 (some 0)) := (hcl10.new hd10).up rfl (upN_s (show (upN (upN (upN (upN (upN (upN (upN (upN (upN (upN N 23) 24) 25) 26) 27) 28) 29) 30) 31) 32) 33 = 0 by simp [upN, hz]))
  rw [← hA11 11 0 h11_10, show (upN (upN (upN (upN (upN (upN (upN (upN (upN (upN N 23) 24) 25) 26) 27) 28) 29) 30) 31) 32) 33 = 0 by simp [upN, hz]]
  refine x_putFR C hnm ff_X4_40 rfl (by first | assumption | exact Nat.one_pos) rfl rfl dX4_init_91 ?_
  refine x_aload_n C dX4_init_94 rfl ?_
  refine x_bipush C 40 (by decide) dX4_init_95 ?_
  have hd11 : Dft I J (up3 (up3 (up3 (up3 (up3 (up3 (up3 (up3 (up3 (up3 (up3 R 11 0 3 (some 0)) 11 0 4 (some 0)) 11 0 5 (some 0)) 11 0 6 (some 0)) 11 0 7 (some 0)) 11 0 8 (some 0)) 11 0 9 (some 0)) 11 0 10 (some 0)) 11 0 11 (some 0)) 11 0 12 (some 0)) 11 0 13 (some 0)) 34 ((upN (upN (upN (upN (upN (upN (upN (upN (upN (upN (upN N 23) 24) 25) 26) 27) 28) 29) 30) 31) 32) 33) 34) := by rw [show (upN (upN (upN (upN (upN (upN (upN (upN (upN (upN (upN N 23) 24) 25) 26) 27) 28) 29) 30) 31) 32) 33) 34 = 0 by simp [upN, hz]]; exact (fun q => ⟨(hd 34 (by decide) q).1, (hd 34 (by decide) q).2.1, by simp [up3, (hd 34 (by decide) q).2.2]⟩)
  refine x_newP C (atype := .long) (kc := 34) rfl rfl rfl (by decide) (fun h => h) (fun k => rfl) ac_J (by decide) hcl11 hd11 (by decide) (by decide) dX4_init_97 (fun ad12 hA12 => ?_)
  have h11_12 : 0 < (upN (upN (upN (upN (upN (upN (upN (upN (upN (upN (upN (upN N 23) 24) 25) 26) 27) 28) 29) 30) 31) 32) 33) 34) 11 := upN_l h11_11
  have hcl12 : CLo (upN (upN (upN (upN (upN (upN (upN (upN (upN (upN (upN (upN N 23) 24) 25) 26) 27) 28) 29) 30) 31) 32) 33) 34) (up3 (up3 (up3 (up3 (up3 (up3 (up3 (up3 (up3 (up3 (up3 (up3 R 11 0 3 (some 0)) 11 0 4 (some 0)) 11 0 5 (some 0)) 11 0 6 (some 0)) 11 0 7 (some 0)) 11 0 8 (some 0)) 11 0 9 (some 0)) 11 0 10 (some 0)) 11 0 11 (some 0)) 11 0 12 (some 0)) 11 0 13 (some 0)) 11 0 14 (some 0)) := (hcl11.new hd11).up rfl (upN_s (show (upN (upN (upN (upN (upN (upN (upN (upN (upN (upN (upN N 23) 24) 25) 26) 27) 28) 29) 30) 31) 32) 33) 34 = 0 by simp [upN, hz]))
  rw [← hA12 11 0 h11_11, show (upN (upN (upN (upN (upN (upN (upN (upN (upN (upN (upN N 23) 24) 25) 26) 27) 28) 29) 30) 31) 32) 33) 34 = 0 by simp [upN, hz]]
  refine x_putFR C hnm ff_X4_43 rfl (by first | assumption | exact Nat.one_pos) rfl rfl dX4_init_99 ?_
  refine x_aload_n C dX4_init_102 rfl ?_
  refine x_bipush C 40 (by decide) dX4_init_103 ?_
  have hd12 : Dft I J (up3 (up3 (up3 (up3 (up3 (up3 (up3 (up3 (up3 (up3 (up3 (up3 R 11 0 3 (some 0)) 11 0 4 (some 0)) 11 0 5 (some 0)) 11 0 6 (some 0)) 11 0 7 (some 0)) 11 0 8 (some 0)) 11 0 9 (some 0)) 11 0 10 (some 0)) 11 0 11 (some 0)) 11 0 12 (some 0)) 11 0 13 (some 0)) 11 0 14 (some 0)) 35 ((upN (upN (upN (upN (upN (upN (upN (upN (upN (upN (upN (upN N 23) 24) 25) 26) 27) 28) 29) 30) 31) 32) 33) 34) 35) := by rw [show (upN (upN (upN (upN (upN (upN (upN (upN (upN (upN (upN (upN N 23) 24) 25) 26) 27) 28) 29) 30) 31) 32) 33) 34) 35 = 0 by simp [upN, hz]]; exact (fun q => ⟨(hd 35 (by decide) q).1, (hd 35 (by decide) q).2.1, by simp [up3, (hd 35 (by decide) q).2.2]⟩)
  refine x_newP C (atype := .boolean) (kc := 35) rfl rfl rfl (by decide) (fun h => h) (fun k => rfl) ac_Z (by decide) hcl12 hd12 (by decide) (by decide) dX4_init_105 (fun ad13 hA13 => ?_)
  have h11_13 : 0 < (upN (upN (upN (upN (upN (upN (upN (upN (upN (upN (upN (upN (upN N 23) 24) 25) 26) 27) 28) 29) 30) 31) 32) 33) 34) 35) 11 := upN_l h11_12
  have hcl13 : CLo (upN (upN (upN (upN (upN (upN (upN (upN (upN (upN (upN (upN (upN N 23) 24) 25) 26) 27) 28) 29) 30) 31) 32) 33) 34) 35) (up3 (up3 (up3 (up3 (up3 (up3 (up3 (up3 (up3 (up3 (up3 (up3 (up3 R 11 0 3 (some 0)) 11 0 4 (some 0)) 11 0 5 (some 0)) 11 0 6 (some 0)) 11 0 7 (some 0)) 11 0 8 (some 0)) 11 0 9 (some 0)) 11 0 10 (some 0)) 11 0 11 (some 0)) 11 0 12 (some 0)) 11 0 13 (some 0)) 11 0 14 (some 0)) 11 0 15 (some 0)) := (hcl12.new hd12).up rfl (upN_s (show (upN (upN (upN (upN (upN (upN (upN (upN (upN (upN (upN (upN N 23) 24) 25) 26) 27) 28) 29) 30) 31) 32) 33) 34) 35 = 0 by simp [upN, hz]))
  rw [← hA13 11 0 h11_12, show (upN (upN (upN (upN (upN (upN (upN (upN (upN (upN (upN (upN N 23) 24) 25) 26) 27) 28) 29) 30) 31) 32) 33) 34) 35 = 0 by simp [upN, hz]]
  refine x_putFR C hnm ff_X4_47 rfl (by first | assumption | exact Nat.one_pos) rfl rfl dX4_init_107 ?_
  refine x_aload_n C dX4_init_110 rfl ?_
  refine x_bipush C 40 (by decide) dX4_init_111 ?_
  have hd13 : Dft I J (up3 (up3 (up3 (up3 (up3 (up3 (up3 (up3 (up3 (up3 (up3 (up3 (up3 R 11 0 3 (some 0)) 11 0 4 (some 0)) 11 0 5 (some 0)) 11 0 6 (some 0)) 11 0 7 (some 0)) 11 0 8 (some 0)) 11 0 9 (some 0)) 11 0 10 (some 0)) 11 0 11 (some 0)) 11 0 12 (some 0)) 11 0 13 (some 0)) 11 0 14 (some 0)) 11 0 15 (some 0)) 36 ((upN (upN (upN (upN (upN (upN (upN (upN (upN (upN (upN (upN (upN N 23) 24) 25) 26) 27) 28) 29) 30) 31) 32) 33) 34) 35) 36) := by rw [show (upN (upN (upN (upN (upN (upN (upN (upN (upN (upN (upN (upN (upN N 23) 24) 25) 26) 27) 28) 29) 30) 31) 32) 33) 34) 35) 36 = 0 by simp [upN, hz]]; exact (fun q => ⟨(hd 36 (by decide) q).1, (hd 36 (by decide) q).2.1, by simp [up3, (hd 36 (by decide) q).2.2]⟩)
  refine x_newP C (atype := .boolean) (kc := 36) rfl rfl rfl (by decide) (fun h => h) (fun k => rfl) ac_Z (by decide) hcl13 hd13 (by decide) (by decide) dX4_init_113 (fun ad14 hA14 => ?_)
  have h11_14 : 0 < (upN (upN (upN (upN (upN (upN (upN (upN (upN (upN (upN (upN (upN (upN N 23) 24) 25) 26) 27) 28) 29) 30) 31) 32) 33) 34) 35) 36) 11 := upN_l h11_13
  have hcl14 : CLo (upN (upN (upN (upN (upN (upN (upN (upN (upN (upN (upN (upN (upN (upN N 23) 24) 25) 26) 27) 28) 29) 30) 31) 32) 33) 34) 35) 36) (up3 (up3 (up3 (up3 (up3 (up3 (up3 (up3 (up3 (up3 (up3 (up3 (up3 (up3 R 11 0 3 (some 0)) 11 0 4 (some 0)) 11 0 5 (some 0)) 11 0 6 (some 0)) 11 0 7 (some 0)) 11 0 8 (some 0)) 11 0 9 (some 0)) 11 0 10 (some 0)) 11 0 11 (some 0)) 11 0 12 (some 0)) 11 0 13 (some 0)) 11 0 14 (some 0)) 11 0 15 (some 0)) 11 0 16 (some 0)) := (hcl13.new hd13).up rfl (upN_s (show (upN (upN (upN (upN (upN (upN (upN (upN (upN (upN (upN (upN (upN N 23) 24) 25) 26) 27) 28) 29) 30) 31) 32) 33) 34) 35) 36 = 0 by simp [upN, hz]))
  rw [← hA14 11 0 h11_13, show (upN (upN (upN (upN (upN (upN (upN (upN (upN (upN (upN (upN (upN N 23) 24) 25) 26) 27) 28) 29) 30) 31) 32) 33) 34) 35) 36 = 0 by simp [upN, hz]]
  refine x_putFR C hnm ff_X4_51 rfl (by first | assumption | exact Nat.one_pos) rfl rfl dX4_init_115 ?_
  refine x_aload_n C dX4_init_118 rfl ?_
  refine x_iconst C 5 (by decide) dX4_init_119 ?_
  have hd14 : Dft I J (up3 (up3 (up3 (up3 (up3 (up3 (up3 (up3 (up3 (up3 (up3 (up3 (up3 (up3 R 11 0 3 (some 0)) 11 0 4 (some 0)) 11 0 5 (some 0)) 11 0 6 (some 0)) 11 0 7 (some 0)) 11 0 8 (some 0)) 11 0 9 (some 0)) 11 0 10 (some 0)) 11 0 11 (some 0)) 11 0 12 (some 0)) 11 0 13 (some 0)) 11 0 14 (some 0)) 11 0 15 (some 0)) 11 0 16 (some 0)) 37 ((upN (upN (upN (upN (upN (upN (upN (upN (upN (upN (upN (upN (upN (upN N 23) 24) 25) 26) 27) 28) 29) 30) 31) 32) 33) 34) 35) 36) 37) := by rw [show (upN (upN (upN (upN (upN (upN (upN (upN (upN (upN (upN (upN (upN (upN N 23) 24) 25) 26) 27) 28) 29) 30) 31) 32) 33) 34) 35) 36) 37 = 0 by simp [upN, hz]]; exact (fun q => ⟨(hd 37 (by decide) q).1, (hd 37 (by decide) q).2.1, by simp [up3, (hd 37 (by decide) q).2.2]⟩)
  refine x_newP C (atype := .int) (kc := 37) rfl rfl rfl (by decide) (fun h => h) (fun k => rfl) ac_I (by decide) hcl14 hd14 (by decide) (by decide) dX4_init_120 (fun ad15 hA15 => ?_)
  have h11_15 : 0 < (upN (upN (upN (upN (upN (upN (upN (upN (upN (upN (upN (upN (upN (upN (upN N 23) 24) 25) 26) 27) 28) 29) 30) 31) 32) 33) 34) 35) 36) 37) 11 := upN_l h11_14
  have hcl15 : CLo (upN (upN (upN (upN (upN (upN (upN (upN (upN (upN (upN (upN (upN (upN (upN N 23) 24) 25) 26) 27) 28) 29) 30) 31) 32) 33) 34) 35) 36) 37) (up3 (up3 (up3 (up3 (up3 (up3 (up3 (up3 (up3 (up3 (up3 (up3 (up3 (up3 (up3 R 11 0 3 (some 0)) 11 0 4 (some 0)) 11 0 5 (some 0)) 11 0 6 (some 0)) 11 0 7 (some 0)) 11 0 8 (some 0)) 11 0 9 (some 0)) 11 0 10 (some 0)) 11 0 11 (some 0)) 11 0 12 (some 0)) 11 0 13 (some 0)) 11 0 14 (some 0)) 11 0 15 (some 0)) 11 0 16 (some 0)) 11 0 17 (some 0)) := (hcl14.new hd14).up rfl (upN_s (show (upN (upN (upN (upN (upN (upN (upN (upN (upN (upN (upN (upN (upN (upN N 23) 24) 25) 26) 27) 28) 29) 30) 31) 32) 33) 34) 35) 36) 37 = 0 by simp [upN, hz]))
  rw [← hA15 11 0 h11_14, show (upN (upN (upN (upN (upN (upN (upN (upN (upN (upN (upN (upN (upN (upN N 23) 24) 25) 26) 27) 28) 29) 30) 31) 32) 33) 34) 35) 36) 37 = 0 by simp [upN, hz]]
  refine x_putFR C hnm ff_X4_54 rfl (by first | assumption | exact Nat.one_pos) rfl rfl dX4_init_122 ?_
  refine x_aload_n C dX4_init_125 rfl ?_
  refine x_sipush C 200 (by decide) dX4_init_126 ?_
  have hd15 : Dft I J (up3 (up3 (up3 (up3 (up3 (up3 (up3 (up3 (up3 (up3 (up3 (up3 (up3 (up3 (up3 R 11 0 3 (some 0)) 11 0 4 (some 0)) 11 0 5 (some 0)) 11 0 6 (some 0)) 11 0 7 (some 0)) 11 0 8 (some 0)) 11 0 9 (some 0)) 11 0 10 (some 0)) 11 0 11 (some 0)) 11 0 12 (some 0)) 11 0 13 (some 0)) 11 0 14 (some 0)) 11 0 15 (some 0)) 11 0 16 (some 0)) 11 0 17 (some 0)) 38 ((upN (upN (upN (upN (upN (upN (upN (upN (upN (upN (upN (upN (upN (upN (upN N 23) 24) 25) 26) 27) 28) 29) 30) 31) 32) 33) 34) 35) 36) 37) 38) := by rw [show (upN (upN (upN (upN (upN (upN (upN (upN (upN (upN (upN (upN (upN (upN (upN N 23) 24) 25) 26) 27) 28) 29) 30) 31) 32) 33) 34) 35) 36) 37) 38 = 0 by simp [upN, hz]]; exact (fun q => ⟨(hd 38 (by decide) q).1, (hd 38 (by decide) q).2.1, by simp [up3, (hd 38 (by decide) q).2.2]⟩)
  refine x_newP C (atype := .int) (kc := 38) rfl rfl rfl (by decide) (fun h => h) (fun k => rfl) ac_I (by decide) hcl15 hd15 (by decide) (by decide) dX4_init_129 (fun ad16 hA16 => ?_)
  have h11_16 : 0 < (upN (upN (upN (upN (upN (upN (upN (upN (upN (upN (upN (upN (upN (upN (upN (upN N 23) 24) 25) 26) 27) 28) 29) 30) 31) 32) 33) 34) 35) 36) 37) 38) 11 := upN_l h11_15
  have hcl16 : CLo (upN (upN (upN (upN (upN (upN (upN (upN (upN (upN (upN (upN (upN (upN (upN (upN N 23) 24) 25) 26) 27) 28) 29) 30) 31) 32) 33) 34) 35) 36) 37) 38) (up3 (up3 (up3 (up3 (up3 (up3 (up3 (up3 (up3 (up3 (up3 (up3 (up3 (up3 (up3 (up3 R 11 0 3 (some 0)) 11 0 4 (some 0)) 11 0 5 (some 0)) 11 0 6 (some 0)) 11 0 7 (some 0)) 11 0 8 (some 0)) 11 0 9 (some 0)) 11 0 10 (some 0)) 11 0 11 (some 0)) 11 0 12 (some 0)) 11 0 13 (some 0)) 11 0 14 (some 0)) 11 0 15 (some 0)) 11 0 16 (some 0)) 11 0 17 (some 0)) 11 0 18 (some 0)) := (hcl15.new hd15).up rfl (upN_s (show (upN (upN (upN (upN (upN (upN (upN (upN (upN (upN (upN (upN (upN (upN (upN N 23) 24) 25) 26) 27) 28) 29) 30) 31) 32) 33) 34) 35) 36) 37) 38 = 0 by simp [upN, hz]))
  rw [← hA16 11 0 h11_15, show (upN (upN (upN (upN (upN (upN (upN (upN (upN (upN (upN (upN (upN (upN (upN N 23) 24) 25) 26) 27) 28) 29) 30) 31) 32) 33) 34) 35) 36) 37) 38 = 0 by simp [upN, hz]]
  refine x_putFR C hnm ff_X4_57 rfl (by first | assumption | exact Nat.one_pos) rfl rfl dX4_init_131 ?_
  refine x_aload_n C dX4_init_134 rfl ?_
  refine x_sipush C 200 (by decide) dX4_init_135 ?_
  have hd16 : Dft I J (up3 (up3 (up3 (up3 (up3 (up3 (up3 (up3 (up3 (up3 (up3 (up3 (up3 (up3 (up3 (up3 R 11 0 3 (some 0)) 11 0 4 (some 0)) 11 0 5 (some 0)) 11 0 6 (some 0)) 11 0 7 (some 0)) 11 0 8 (some 0)) 11 0 9 (some 0)) 11 0 10 (some 0)) 11 0 11 (some 0)) 11 0 12 (some 0)) 11 0 13 (some 0)) 11 0 14 (some 0)) 11 0 15 (some 0)) 11 0 16 (some 0)) 11 0 17 (some 0)) 11 0 18 (some 0)) 39 ((upN (upN (upN (upN (upN (upN (upN (upN (upN (upN (upN (upN (upN (upN (upN (upN N 23) 24) 25) 26) 27) 28) 29) 30) 31) 32) 33) 34) 35) 36) 37) 38) 39) := by rw [show (upN (upN (upN (upN (upN (upN (upN (upN (upN (upN (upN (upN (upN (upN (upN (upN N 23) 24) 25) 26) 27) 28) 29) 30) 31) 32) 33) 34) 35) 36) 37) 38) 39 = 0 by simp [upN, hz]]; exact (fun q => ⟨(hd 39 (by decide) q).1, (hd 39 (by decide) q).2.1, by simp [up3, (hd 39 (by decide) q).2.2]⟩)
  refine x_newP C (atype := .int) (kc := 39) rfl rfl rfl (by decide) (fun h => h) (fun k => rfl) ac_I (by decide) hcl16 hd16 (by decide) (by decide) dX4_init_138 (fun ad17 hA17 => ?_)
  have h11_17 : 0 < (upN (upN (upN (upN (upN (upN (upN (upN (upN (upN (upN (upN (upN (upN (upN (upN (upN N 23) 24) 25) 26) 27) 28) 29) 30) 31) 32) 33) 34) 35) 36) 37) 38) 39) 11 := upN_l h11_16
  have hcl17 : CLo (upN (upN (upN (upN (upN (upN (upN (upN (upN (upN (upN (upN (upN (upN (upN (upN (upN N 23) 24) 25) 26) 27) 28) 29) 30) 31) 32) 33) 34) 35) 36) 37) 38) 39) (up3 (up3 (up3 (up3 (up3 (up3 (up3 (up3 (up3 (up3 (up3 (up3 (up3 (up3 (up3 (up3 (up3 R 11 0 3 (some 0)) 11 0 4 (some 0)) 11 0 5 (some 0)) 11 0 6 (some 0)) 11 0 7 (some 0)) 11 0 8 (some 0)) 11 0 9 (some 0)) 11 0 10 (some 0)) 11 0 11 (some 0)) 11 0 12 (some 0)) 11 0 13 (some 0)) 11 0 14 (some 0)) 11 0 15 (some 0)) 11 0 16 (some 0)) 11 0 17 (some 0)) 11 0 18 (some 0)) 11 0 19 (some 0)) := (hcl16.new hd16).up rfl (upN_s (show (upN (upN (upN (upN (upN (upN (upN (upN (upN (upN (upN (upN (upN (upN (upN (upN N 23) 24) 25) 26) 27) 28) 29) 30) 31) 32) 33) 34) 35) 36) 37) 38) 39 = 0 by simp [upN, hz]))
  rw [← hA17 11 0 h11_16, show (upN (upN (upN (upN (upN (upN (upN (upN (upN (upN (upN (upN (upN (upN (upN (upN N 23) 24) 25) 26) 27) 28) 29) 30) 31) 32) 33) 34) 35) 36) 37) 38) 39 = 0 by simp [upN, hz]]
  refine x_putFR C hnm ff_X4_60 rfl (by first | assumption | exact Nat.one_pos) rfl rfl dX4_init_140 ?_
  refine x_aload_n C dX4_init_143 rfl ?_
  refine x_sipush C 1600 (by decide) dX4_init_144 ?_
  have hd17 : Dft I J (up3 (up3 (up3 (up3 (up3 (up3 (up3 (up3 (up3 (up3 (up3 (up3 (up3 (up3 (up3 (up3 (up3 R 11 0 3 (some 0)) 11 0 4 (some 0)) 11 0 5 (some 0)) 11 0 6 (some 0)) 11 0 7 (some 0)) 11 0 8 (some 0)) 11 0 9 (some 0)) 11 0 10 (some 0)) 11 0 11 (some 0)) 11 0 12 (some 0)) 11 0 13 (some 0)) 11 0 14 (some 0)) 11 0 15 (some 0)) 11 0 16 (some 0)) 11 0 17 (some 0)) 11 0 18 (some 0)) 11 0 19 (some 0)) 40 ((upN (upN (upN (upN (upN (upN (upN (upN (upN (upN (upN (upN (upN (upN (upN (upN (upN N 23) 24) 25) 26) 27) 28) 29) 30) 31) 32) 33) 34) 35) 36) 37) 38) 39) 40) := by rw [show (upN (upN (upN (upN (upN (upN (upN (upN (upN (upN (upN (upN (upN (upN (upN (upN (upN N 23) 24) 25) 26) 27) 28) 29) 30) 31) 32) 33) 34) 35) 36) 37) 38) 39) 40 = 0 by simp [upN, hz]]; exact (fun q => ⟨(hd 40 (by decide) q).1, (hd 40 (by decide) q).2.1, by simp [up3, (hd 40 (by decide) q).2.2]⟩)
  refine x_newP C (atype := .int) (kc := 40) rfl rfl rfl (by decide) (fun h => h) (fun k => rfl) ac_I (by decide) hcl17 hd17 (by decide) (by decide) dX4_init_147 (fun ad18 hA18 => ?_)
  have h11_18 : 0 < (upN (upN (upN (upN (upN (upN (upN (upN (upN (upN (upN (upN (upN (upN (upN (upN (upN (upN N 23) 24) 25) 26) 27) 28) 29) 30) 31) 32) 33) 34) 35) 36) 37) 38) 39) 40) 11 := upN_l h11_17
  have hcl18 : CLo (upN (upN (upN (upN (upN (upN (upN (upN (upN (upN (upN (upN (upN (upN (upN (upN (upN (upN N 23) 24) 25) 26) 27) 28) 29) 30) 31) 32) 33) 34) 35) 36) 37) 38) 39) 40) (up3 (up3 (up3 (up3 (up3 (up3 (up3 (up3 (up3 (up3 (up3 (up3 (up3 (up3 (up3 (up3 (up3 (up3 R 11 0 3 (some 0)) 11 0 4 (some 0)) 11 0 5 (some 0)) 11 0 6 (some 0)) 11 0 7 (some 0)) 11 0 8 (some 0)) 11 0 9 (some 0)) 11 0 10 (some 0)) 11 0 11 (some 0)) 11 0 12 (some 0)) 11 0 13 (some 0)) 11 0 14 (some 0)) 11 0 15 (some 0)) 11 0 16 (some 0)) 11 0 17 (some 0)) 11 0 18 (some 0)) 11 0 19 (some 0)) 11 0 20 (some 0)) := (hcl17.new hd17).up rfl (upN_s (show (upN (upN (upN (upN (upN (upN (upN (upN (upN (upN (upN (upN (upN (upN (upN (upN (upN N 23) 24) 25) 26) 27) 28) 29) 30) 31) 32) 33) 34) 35) 36) 37) 38) 39) 40 = 0 by simp [upN, hz]))
  rw [← hA18 11 0 h11_17, show (upN (upN (upN (upN (upN (upN (upN (upN (upN (upN (upN (upN (upN (upN (upN (upN (upN N 23) 24) 25) 26) 27) 28) 29) 30) 31) 32) 33) 34) 35) 36) 37) 38) 39) 40 = 0 by simp [upN, hz]]
  refine x_putFR C hnm ff_X4_63 rfl (by first | assumption | exact Nat.one_pos) rfl rfl dX4_init_149 ?_
  refine x_aload_n C dX4_init_152 rfl ?_
  refine x_sipush C 200 (by decide) dX4_init_153 ?_
  have hd18 : Dft I J (up3 (up3 (up3 (up3 (up3 (up3 (up3 (up3 (up3 (up3 (up3 (up3 (up3 (up3 (up3 (up3 (up3 (up3 R 11 0 3 (some 0)) 11 0 4 (some 0)) 11 0 5 (some 0)) 11 0 6 (some 0)) 11 0 7 (some 0)) 11 0 8 (some 0)) 11 0 9 (some 0)) 11 0 10 (some 0)) 11 0 11 (some 0)) 11 0 12 (some 0)) 11 0 13 (some 0)) 11 0 14 (some 0)) 11 0 15 (some 0)) 11 0 16 (some 0)) 11 0 17 (some 0)) 11 0 18 (some 0)) 11 0 19 (some 0)) 11 0 20 (some 0)) 41 ((upN (upN (upN (upN (upN (upN (upN (upN (upN (upN (upN (upN (upN (upN (upN (upN (upN (upN N 23) 24) 25) 26) 27) 28) 29) 30) 31) 32) 33) 34) 35) 36) 37) 38) 39) 40) 41) := by rw [show (upN (upN (upN (upN (upN (upN (upN (upN (upN (upN (upN (upN (upN (upN (upN (upN (upN (upN N 23) 24) 25) 26) 27) 28) 29) 30) 31) 32) 33) 34) 35) 36) 37) 38) 39) 40) 41 = 0 by simp [upN, hz]]; exact (fun q => ⟨(hd 41 (by decide) q).1, (hd 41 (by decide) q).2.1, by simp [up3, (hd 41 (by decide) q).2.2]⟩)
  refine x_newP C (atype := .boolean) (kc := 41) rfl rfl rfl (by decide) (fun h => h) (fun k => rfl) ac_Z (by decide) hcl18 hd18 (by decide) (by decide) dX4_init_156 (fun ad19 hA19 => ?_)
  have h11_19 : 0 < (upN (upN (upN (upN (upN (upN (upN (upN (upN (upN (upN (upN (upN (upN (upN (upN (upN (upN (upN N 23) 24) 25) 26) 27) 28) 29) 30) 31) 32) 33) 34) 35) 36) 37) 38) 39) 40) 41) 11 := upN_l h11_18
  have hcl19 : CLo (upN (upN (upN (upN (upN (upN (upN (upN (upN (upN (upN (upN (upN (upN (upN (upN (upN (upN (upN N 23) 24) 25) 26) 27) 28) 29) 30) 31) 32) 33) 34) 35) 36) 37) 38) 39) 40) 41) (up3 (up3 (up3 (up3 (up3 (up3 (up3 (up3 (up3 (up3 (up3 (up3 (up3 (up3 (up3 (up3 (up3 (up3 (up3 R 11 0 3 (some 0)) 11 0 4 (some 0)) 11 0 5 (some 0)) 11 0 6 (some 0)) 11 0 7 (some 0)) 11 0 8 (some 0)) 11 0 9 (some 0)) 11 0 10 (some 0)) 11 0 11 (some 0)) 11 0 12 (some 0)) 11 0 13 (some 0)) 11 0 14 (some 0)) 11 0 15 (some 0)) 11 0 16 (some 0)) 11 0 17 (some 0)) 11 0 18 (some 0)) 11 0 19 (some 0)) 11 0 20 (some 0)) 11 0 21 (some 0)) := (hcl18.new hd18).up rfl (upN_s (show (upN (upN (upN (upN (upN (upN (upN (upN (upN (upN (upN (upN (upN (upN (upN (upN (upN (upN N 23) 24) 25) 26) 27) 28) 29) 30) 31) 32) 33) 34) 35) 36) 37) 38) 39) 40) 41 = 0 by simp [upN, hz]))
  rw [← hA19 11 0 h11_18, show (upN (upN (upN (upN (upN (upN (upN (upN (upN (upN (upN (upN (upN (upN (upN (upN (upN (upN N 23) 24) 25) 26) 27) 28) 29) 30) 31) 32) 33) 34) 35) 36) 37) 38) 39) 40) 41 = 0 by simp [upN, hz]]
  refine x_putFR C hnm ff_X4_66 rfl (by first | assumption | exact Nat.one_pos) rfl rfl dX4_init_158 ?_
  refine x_aload_n C dX4_init_161 rfl ?_
  refine x_bipush C 40 (by decide) dX4_init_162 ?_
  have hd19 : Dft I J (up3 (up3 (up3 (up3 (up3 (up3 (up3 (up3 (up3 (up3 (up3 (up3 (up3 (up3 (up3 (up3 (up3 (up3 (up3 R 11 0 3 (some 0)) 11 0 4 (some 0)) 11 0 5 (some 0)) 11 0 6 (some 0)) 11 0 7 (some 0)) 11 0 8 (some 0)) 11 0 9 (some 0)) 11 0 10 (some 0)) 11 0 11 (some 0)) 11 0 12 (some 0)) 11 0 13 (some 0)) 11 0 14 (some 0)) 11 0 15 (some 0)) 11 0 16 (some 0)) 11 0 17 (some 0)) 11 0 18 (some 0)) 11 0 19 (some 0)) 11 0 20 (some 0)) 11 0 21 (some 0)) 42 ((upN (upN (upN (upN (upN (upN (upN (upN (upN (upN (upN (upN (upN (upN (upN (upN (upN (upN (upN N 23) 24) 25) 26) 27) 28) 29) 30) 31) 32) 33) 34) 35) 36) 37) 38) 39) 40) 41) 42) := by rw [show (upN (upN (upN (upN (upN (upN (upN (upN (upN (upN (upN (upN (upN (upN (upN (upN (upN (upN (upN N 23) 24) 25) 26) 27) 28) 29) 30) 31) 32) 33) 34) 35) 36) 37) 38) 39) 40) 41) 42 = 0 by simp [upN, hz]]; exact (fun q => ⟨(hd 42 (by decide) q).1, (hd 42 (by decide) q).2.1, by simp [up3, (hd 42 (by decide) q).2.2]⟩)
  refine x_newP C (atype := .int) (kc := 42) rfl rfl rfl (by decide) (fun h => h) (fun k => rfl) ac_I (by decide) hcl19 hd19 (by decide) (by decide) dX4_init_164 (fun ad20 hA20 => ?_)
  have h11_20 : 0 < (upN (upN (upN (upN (upN (upN (upN (upN (upN (upN (upN (upN (upN (upN (upN (upN (upN (upN (upN (upN N 23) 24) 25) 26) 27) 28) 29) 30) 31) 32) 33) 34) 35) 36) 37) 38) 39) 40) 41) 42) 11 := upN_l h11_19
  have hcl20 : CLo (upN (upN (upN (upN (upN (upN (upN (upN (upN (upN (upN (upN (upN (upN (upN (upN (upN (upN (upN (upN N 23) 24) 25) 26) 27) 28) 29) 30) 31) 32) 33) 34) 35) 36) 37) 38) 39) 40) 41) 42) (up3 (up3 (up3 (up3 (up3 (up3 (up3 (up3 (up3 (up3 (up3 (up3 (up3 (up3 (up3 (up3 (up3 (up3 (up3 (up3 R 11 0 3 (some 0)) 11 0 4 (some 0)) 11 0 5 (some 0)) 11 0 6 (some 0)) 11 0 7 (some 0)) 11 0 8 (some 0)) 11 0 9 (some 0)) 11 0 10 (some 0)) 11 0 11 (some 0)) 11 0 12 (some 0)) 11 0 13 (some 0)) 11 0 14 (some 0)) 11 0 15 (some 0)) 11 0 16 (some 0)) 11 0 17 (some 0)) 11 0 18 (some 0)) 11 0 19 (some 0)) 11 0 20 (some 0)) 11 0 21 (some 0)) 11 0 22 (some 0)) := (hcl19.new hd19).up rfl (upN_s (show (upN (upN (upN (upN (upN (upN (upN (upN (upN (upN (upN (upN (upN (upN (upN (upN (upN (upN (upN N 23) 24) 25) 26) 27) 28) 29) 30) 31) 32) 33) 34) 35) 36) 37) 38) 39) 40) 41) 42 = 0 by simp [upN, hz]))
  rw [← hA20 11 0 h11_19, show (upN (upN (upN (upN (upN (upN (upN (upN (upN (upN (upN (upN (upN (upN (upN (upN (upN (upN (upN N 23) 24) 25) 26) 27) 28) 29) 30) 31) 32) 33) 34) 35) 36) 37) 38) 39) 40) 41) 42 = 0 by simp [upN, hz]]
  refine x_putFR C hnm ff_X4_69 rfl (by first | assumption | exact Nat.one_pos) rfl rfl dX4_init_166 ?_
  refine x_aload_n C dX4_init_169 rfl ?_
  refine x_bipush C 40 (by decide) dX4_init_170 ?_
  have hd20 : Dft I J (up3 (up3 (up3 (up3 (up3 (up3 (up3 (up3 (up3 (up3 (up3 (up3 (up3 (up3 (up3 (up3 (up3 (up3 (up3 (up3 R 11 0 3 (some 0)) 11 0 4 (some 0)) 11 0 5 (some 0)) 11 0 6 (some 0)) 11 0 7 (some 0)) 11 0 8 (some 0)) 11 0 9 (some 0)) 11 0 10 (some 0)) 11 0 11 (some 0)) 11 0 12 (some 0)) 11 0 13 (some 0)) 11 0 14 (some 0)) 11 0 15 (some 0)) 11 0 16 (some 0)) 11 0 17 (some 0)) 11 0 18 (some 0)) 11 0 19 (some 0)) 11 0 20 (some 0)) 11 0 21 (some 0)) 11 0 22 (some 0)) 44 ((upN (upN (upN (upN (upN (upN (upN (upN (upN (upN (upN (upN (upN (upN (upN (upN (upN (upN (upN (upN N 23) 24) 25) 26) 27) 28) 29) 30) 31) 32) 33) 34) 35) 36) 37) 38) 39) 40) 41) 42) 44) := by rw [show (upN (upN (upN (upN (upN (upN (upN (upN (upN (upN (upN (upN (upN (upN (upN (upN (upN (upN (upN (upN N 23) 24) 25) 26) 27) 28) 29) 30) 31) 32) 33) 34) 35) 36) 37) 38) 39) 40) 41) 42) 44 = 0 by simp [upN, hz]]; exact (fun q => ⟨(hd 44 (by decide) q).1, (hd 44 (by decide) q).2.1, by simp [up3, (hd 44 (by decide) q).2.2]⟩)
  refine x_newP C (atype := .boolean) (kc := 44) rfl rfl rfl (by decide) (fun h => h) (fun k => rfl) ac_Z (by decide) hcl20 hd20 (by decide) (by decide) dX4_init_172 (fun ad21 hA21 => ?_)
  have h11_21 : 0 < (upN (upN (upN (upN (upN (upN (upN (upN (upN (upN (upN (upN (upN (upN (upN (upN (upN (upN (upN (upN (upN N 23) 24) 25) 26) 27) 28) 29) 30) 31) 32) 33) 34) 35) 36) 37) 38) 39) 40) 41) 42) 44) 11 := upN_l h11_20
  have hcl21 : CLo (upN (upN (upN (upN (upN (upN (upN (upN (upN (upN (upN (upN (upN (upN (upN (upN (upN (upN (upN (upN (upN N 23) 24) 25) 26) 27) 28) 29) 30) 31) 32) 33) 34) 35) 36) 37) 38) 39) 40) 41) 42) 44) (up3 (up3 (up3 (up3 (up3 (up3 (up3 (up3 (up3 (up3 (up3 (up3 (up3 (up3 (up3 (up3 (up3 (up3 (up3 (up3 (up3 R 11 0 3 (some 0)) 11 0 4 (some 0)) 11 0 5 (some 0)) 11 0 6 (some 0)) 11 0 7 (some 0)) 11 0 8 (some 0)) 11 0 9 (some 0)) 11 0 10 (some 0)) 11 0 11 (some 0)) 11 0 12 (some 0)) 11 0 13 (some 0)) 11 0 14 (some 0)) 11 0 15 (some 0)) 11 0 16 (some 0)) 11 0 17 (some 0)) 11 0 18 (some 0)) 11 0 19 (some 0)) 11 0 20 (some 0)) 11 0 21 (some 0)) 11 0 22 (some 0)) 11 0 24 (some 0)) := (hcl20.new hd20).up rfl (upN_s (show (upN (upN (upN (upN (upN (upN (upN (upN (upN (upN (upN (upN (upN (upN (upN (upN (upN (upN (upN (upN N 23) 24) 25) 26) 27) 28) 29) 30) 31) 32) 33) 34) 35) 36) 37) 38) 39) 40) 41) 42) 44 = 0 by simp [upN, hz]))
  rw [← hA21 11 0 h11_20, show (upN (upN (upN (upN (upN (upN (upN (upN (upN (upN (upN (upN (upN (upN (upN (upN (upN (upN (upN (upN N 23) 24) 25) 26) 27) 28) 29) 30) 31) 32) 33) 34) 35) 36) 37) 38) 39) 40) 41) 42) 44 = 0 by simp [upN, hz]]
  refine x_putFR C hnm ff_X4_72 rfl (by first | assumption | exact Nat.one_pos) rfl rfl dX4_init_174 ?_
  exact x_vret C (⟨rfl, fun c i9 h9 => (hA21 c i9 (upN_l (upN_l (upN_l (upN_l (upN_l (upN_l (upN_l (upN_l (upN_l (upN_l (upN_l (upN_l (upN_l (upN_l (upN_l (upN_l (upN_l (upN_l (upN_l (upN_l h9))))))))))))))))))))).trans ((hA20 c i9 (upN_l (upN_l (upN_l (upN_l (upN_l (upN_l (upN_l (upN_l (upN_l (upN_l (upN_l (upN_l (upN_l (upN_l (upN_l (upN_l (upN_l (upN_l (upN_l h9)))))))))))))))))))).trans ((hA19 c i9 (upN_l (upN_l (upN_l (upN_l (upN_l (upN_l (upN_l (upN_l (upN_l (upN_l (upN_l (upN_l (upN_l (upN_l (upN_l (upN_l (upN_l (upN_l h9))))))))))))))))))).trans ((hA18 c i9 (upN_l (upN_l (upN_l (upN_l (upN_l (upN_l (upN_l (upN_l (upN_l (upN_l (upN_l (upN_l (upN_l (upN_l (upN_l (upN_l (upN_l h9)))))))))))))))))).trans ((hA17 c i9 (upN_l (upN_l (upN_l (upN_l (upN_l (upN_l (upN_l (upN_l (upN_l (upN_l (upN_l (upN_l (upN_l (upN_l (upN_l (upN_l h9))))))))))))))))).trans ((hA16 c i9 (upN_l (upN_l (upN_l (upN_l (upN_l (upN_l (upN_l (upN_l (upN_l (upN_l (upN_l (upN_l (upN_l (upN_l (upN_l h9)))))))))))))))).trans ((hA15 c i9 (upN_l (upN_l (upN_l (upN_l (upN_l (upN_l (upN_l (upN_l (upN_l (upN_l (upN_l (upN_l (upN_l (upN_l h9))))))))))))))).trans ((hA14 c i9 (upN_l (upN_l (upN_l (upN_l (upN_l (upN_l (upN_l (upN_l (upN_l (upN_l (upN_l (upN_l (upN_l h9)))))))))))))).trans ((hA13 c i9 (upN_l (upN_l (upN_l (upN_l (upN_l (upN_l (upN_l (upN_l (upN_l (upN_l (upN_l (upN_l h9))))))))))))).trans ((hA12 c i9 (upN_l (upN_l (upN_l (upN_l (upN_l (upN_l (upN_l (upN_l (upN_l (upN_l (upN_l h9)))))))))))).trans ((hA11 c i9 (upN_l (upN_l (upN_l (upN_l (upN_l (upN_l (upN_l (upN_l (upN_l (upN_l h9))))))))))).trans ((hA10 c i9 (upN_l (upN_l (upN_l (upN_l (upN_l (upN_l (upN_l (upN_l (upN_l h9)))))))))).trans ((hA9 c i9 (upN_l (upN_l (upN_l (upN_l (upN_l (upN_l (upN_l (upN_l h9))))))))).trans ((hA8 c i9 (upN_l (upN_l (upN_l (upN_l (upN_l (upN_l (upN_l h9)))))))).trans ((hA7 c i9 (upN_l (upN_l (upN_l (upN_l (upN_l (upN_l h9))))))).trans ((hA6 c i9 (upN_l (upN_l (upN_l (upN_l (upN_l h9)))))).trans ((hA5 c i9 (upN_l (upN_l (upN_l (upN_l h9))))).trans ((hA4 c i9 (upN_l (upN_l (upN_l h9)))).trans ((hA3 c i9 (upN_l (upN_l h9))).trans ((hA2 c i9 (upN_l h9)).trans (hA1 c i9 h9)))))))))))))))))))), rfl, rfl, rfl, rfl⟩) dX4_init_177

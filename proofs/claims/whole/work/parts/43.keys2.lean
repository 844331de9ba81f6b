/-! leaf, key: one key more -/
theorem CTx.mono {l : Launch} {D : va_G} {dA : Nat → ClassId} {base : Nat} {y : MethodName} {cc : ByteArray} {maxL : Nat} {ret : Option FieldType} {d mc ms : Nat} {as : List Value} {ad : Fa} {N : Nat → Nat} {I : Fi} {J : Fj} {R : Fr} {post post' : Po} (h : CTx l D dA base y cc maxL ret d mc ms as ad N I J R post) (hp : ∀ r a n i j k, post r a n i j k → post' r a n i j k) : CTx l D dA base y cc maxL ret d mc ms as ad N I J R post' := by
  intro p e ha hc hk s m args below hf hpre hP hT
  obtain ⟨k, o, h1, h2, h3, ⟨⟨r, a, n, i, j, rr, e1, e2, e3⟩, hF⟩, h5⟩ := h p e ha hc hk s m args below hf hpre hP hT
  exact ⟨k, o, h1, h2, h3, ⟨⟨r, a, n, i, j, rr, e1, hp _ _ _ _ _ _ e2, e3⟩, hF⟩, h5⟩
theorem Rch.grow {n : Nat} {rs : Nat → Nat} {rw : Nat → Nat → Nat} (h0 : rs n = 0) (a b : Nat) : Rch (n + 1) rs rw a b ↔ Rch n rs rw a b := by
  constructor
  · intro h P hb hs
    exact h P hb (fun x i hx hi hP => by
      by_cases e : x = n
      · subst e; rw [h0] at hi; exact absurd hi (Nat.not_lt_zero _)
      · exact hs x i (by omega) hi hP)
  · intro h P hb hs
    exact h P hb (fun x i hx hi hP => hs x i (by omega) hi hP)
theorem CLo.key {n : Nat} {R : Fr} (h : CLo (Nn n) R) (hd : ∀ c, (c = 4 ∨ c = 5 ∨ c = 6 ∨ c = 7 ∨ c = 8) → ∀ k, R c n k = none) : CLo (Nn (n + 1)) (up3 (nkR R n) 1 0 n (some n)) := by
  intro c i k j t hi hr hs
  have hmono : ∀ t j, j < Nn n t → j < Nn (n + 1) t := fun t j hj => by
    have : Nn n t ≤ Nn (n + 1) t := by unfold Nn; split <;> omega
    omega
  by_cases h1 : c = 1 ∧ i = 0 ∧ k = n
  · obtain ⟨rfl, rfl, rfl⟩ := h1
    rw [up3_s] at hr
    have e1 : j = k := (Option.some.inj hr).symm
    have e2 : t = 4 := by simp [sty] at hs; omega
    subst e1; subst e2; exact Nat.lt_succ_self _
  · rw [up3_n _ _ _ _ _ h1] at hr
    by_cases h2 : (c = 4 ∧ i = n ∧ (k = 2 ∨ k = 12 ∨ k = 17)) ∨ (c = 7 ∧ i = n ∧ k = 2)
    · have e1 : j = n := by
        rcases h2 with ⟨rfl, rfl, rfl | rfl | rfl⟩ | ⟨rfl, rfl, rfl⟩ <;> simp [nkR, up3] at hr <;> omega
      subst e1
      rcases h2 with ⟨rfl, -, rfl | rfl | rfl⟩ | ⟨rfl, -, rfl⟩ <;> simp [sty] at hs <;> subst hs <;> exact Nat.lt_succ_self _
    · have e : nkR R n c i k = R c i k := by
        unfold nkR
        rw [up3_n _ _ _ _ _ (by omega), up3_n _ _ _ _ _ (by omega), up3_n _ _ _ _ _ (by omega), up3_n _ _ _ _ _ (by omega)]
      rw [e] at hr
      rcases Nn_le hi with hi | ⟨rfl, hc⟩
      · exact hmono _ _ (h c i k j t hi hr hs)
      · rw [hd c hc k] at hr; cases hr
theorem sim_new {n ver : Nat} {I I' : Fi} {J J' : Fj} {R : Fr} (h : SIM n ver I J R) (hn : n < 40) (fn : Int32) (hfn : fn = -1 ∨ ∃ f, f < 6 ∧ fn = nI f) (hI : ∀ c b d, ¬ (c = 4 ∧ b = n) → ¬ (c = 0 ∧ d = 1) → ¬ (c = 11 ∧ (d = 0 ∨ d = 2)) → ¬ ((c = 23 ∨ c = 26 ∨ c = 27 ∨ c = 28 ∨ c = 29) ∧ d = n) → I' c b d = I c b d) (hJ : ∀ c b d, ¬ (c = 4 ∧ b = n) → ¬ (c = 34 ∧ d = n) → J' c b d = J c b d) (e0 : I' 4 n 0 = nI n) (e1 : I' 4 n 1 = fn) (e23 : I' 23 0 n = fn) (ez : ∀ d, ¬ d = 0 → ¬ d = 1 → ¬ d = 7 → ¬ d = 9 → I' 4 n d = 0) (e01 : I' 0 0 1 = nI (n + 1)) (e11 : I' 11 0 2 = nI (n + 1)) (e7 : I' 4 n 7 = I' 26 0 n) (e8 : J' 4 n 8 = J' 34 0 n) (e29 : I' 29 0 n = -1) (el : fn = -1 → I' 4 n 7 = 1 ∧ I' 4 n 9 = I' 28 0 n) (ef : ¬ fn = -1 → J' 4 n 8 = 0) (er : J' 4 n 4 = 1 <<< ((nI n).toInt64 &&& 63)) : SIM (n + 1) ver I' J' (up3 (nkR R n) 1 0 n (some n)) := by
  obtain ⟨rs, aq, zs, rw, ap, pk, ⟨h1, h2, h3, h4, h5, h6, h7, a1, a2, a3, a4, a5, a6⟩, hP, hz4⟩ := h
  have d4 := a5 4 n (by omega) (Nat.le_refl _)
  have hrn : rs n = 0 := h5.2 n (Nat.le_refl _)
  have q4 : ∀ q d, ¬ q = n → I' 4 q d = I 4 q d := fun q d hq => hI _ _ _ (by omega) (by omega) (by omega) (by omega)
  have qm : ∀ c q, (c = 23 ∨ c = 26 ∨ c = 27 ∨ c = 28 ∨ c = 29) → ¬ q = n → I' c 0 q = I c 0 q := fun c q hc hq => hI _ _ _ (by omega) (by omega) (by omega) (by omega)
  have qs : ∀ c q, (c = 24 ∨ c = 25 ∨ c = 30 ∨ c = 31 ∨ c = 32 ∨ c = 33 ∨ c = 35 ∨ c = 36) → I' c 0 q = I c 0 q := fun c q hc => hI _ _ _ (by omega) (by omega) (by omega) (by omega)
  have v0 : I' 0 0 2 = I 0 0 2 := hI _ _ _ (by omega) (by omega) (by omega) (by omega)
  have v11 : I' 11 0 1 = I 11 0 1 := hI _ _ _ (by omega) (by omega) (by omega) (by omega)
  have qJ : ∀ q, ¬ q = n → J' 4 q 8 = J 4 q 8 ∧ J' 34 0 q = J 34 0 q := fun q hq => ⟨hJ _ _ _ (by omega) (by omega), hJ _ _ _ (by omega) (by omega)⟩
  obtain ⟨m1, m2, m3, m4, m5, m6, m7, m8⟩ := a6 n (Nat.le_refl _)
  have hR5 : ∀ a i, up3 (nkR R n) 1 0 n (some n) 5 a i = R 5 a i := fun a i => by simp [nkR, up3]
  refine ⟨rs, u1 aq n 0, zs, rw, ap, pk, ⟨fun q hq => ?_, fun q hq => ?_, ⟨by rw [v0]; exact h3.1, by rw [v11]; exact h3.2.1, h3.2.2.1, fun q hq => ?_⟩, fun q hq => ?_, ⟨fun q hq => ?_, fun q hq => h5.2 q (by omega)⟩, ⟨fun a b ha hb => ?_, fun x i hx hi => ?_⟩, ?_, ?_, ?_, ⟨e11, by omega⟩, a4.key (fun c hc k => (a5 c n hc (Nat.le_refl _) k).2.2), fun c i hc hi q => ⟨?_, ?_, ?_⟩, fun q hq => ?_⟩, ⟨fun q hq => ?_, fun q j hq hj => ?_, hP.2.2.1, fun k hk => ?_⟩, hz4⟩
  · by_cases e : q = n
    · subst e
      refine ⟨by rw [e1, e23], by rw [ez 5 (by omega) (by omega) (by omega) (by omega), qs 35 q (by omega), m6], e7, by rw [ez 10 (by omega) (by omega) (by omega) (by omega), qs 36 q (by omega), m7], by rw [ez 14 (by omega) (by omega) (by omega) (by omega), qs 32 q (by omega), m4], by rw [ez 15 (by omega) (by omega) (by omega) (by omega), qs 33 q (by omega), m5], e8⟩
    · rw [q4 _ _ e, q4 _ _ e, q4 _ _ e, q4 _ _ e, q4 _ _ e, q4 _ _ e, qm 23 _ (by omega) e, qm 26 _ (by omega) e, qs 35 _ (by omega), qs 36 _ (by omega), qs 32 _ (by omega), qs 33 _ (by omega), (qJ q e).1, (qJ q e).2]
      exact h1 q (by omega)
  · by_cases e : q = n
    · subst e
      refine ⟨by rw [e1]; exact hfn, Or.inl (ez 5 (by omega) (by omega) (by omega) (by omega)), Or.inl (ez 10 (by omega) (by omega) (by omega) (by omega)), fun z => ⟨ez 10 (by omega) (by omega) (by omega) (by omega), (el (by rw [← e1]; exact z)).1, hrn⟩, fun z _ => ef (by rw [← e1]; exact z)⟩
    · rw [q4 _ _ e, q4 _ _ e, q4 _ _ e, q4 _ _ e, (qJ q e).1]
      exact h2 q (by omega)
  · by_cases e : q = n
    · subst e
      refine ⟨Or.inl ⟨e29, ez 6 (by omega) (by omega) (by omega) (by omega)⟩, fun z => absurd (ez 10 (by omega) (by omega) (by omega) (by omega)) z, fun z => ?_⟩
      rcases z with z | z
      · exact (el (by rw [← e1]; exact z)).2
      · exact absurd (ez 10 (by omega) (by omega) (by omega) (by omega)) z
    · rw [q4 _ _ e, q4 _ _ e, q4 _ _ e, q4 _ _ e, q4 _ _ e, qm 29 _ (by omega) e, qm 27 _ (by omega) e, qm 28 _ (by omega) e]
      exact h3.2.2.2 q (by omega)
  · by_cases e : q = n
    · subst e
      rw [u1_s]
      exact ⟨ez 13 (by omega) (by omega) (by omega) (by omega), by rw [qs 30 _ (by omega)]; exact m3, by omega, fun i hi => absurd hi (Nat.not_lt_zero _)⟩
    · rw [u1_n _ _ e, q4 _ _ e, qs 30 _ (by omega)]
      obtain ⟨b1, b2, b3, b4⟩ := h4 q (by omega)
      refine ⟨b1, b2, b3, fun i hi => ?_⟩
      rw [hI 6 q i (by omega) (by omega) (by omega) (by omega), qs 31 _ (by omega)]; exact b4 i hi
  · by_cases e : q = n
    · subst e
      rw [hrn]
      exact ⟨ez 3 (by omega) (by omega) (by omega) (by omega), by rw [qs 24 _ (by omega)]; exact m1, by omega, fun i hi => absurd hi (Nat.not_lt_zero _)⟩
    · rw [q4 _ _ e, qs 24 _ (by omega)]
      obtain ⟨b1, b2, b3, b4⟩ := h5.1 q (by omega)
      refine ⟨b1, b2, b3, fun i hi => ?_⟩
      rw [hR5, qs 25 _ (by omega)]
      exact ⟨(b4 i hi).1, (b4 i hi).2.1, by have := (b4 i hi).2.2; omega⟩
  · rw [Rch.grow hrn]
    by_cases e : a = n
    · subst e
      rw [er, bit_new a b hn hb]
      refine ⟨fun z => by subst z; exact Rch.rf _ _ _ _, fun z => ?_⟩
      rcases z.inv with w | ⟨w, -⟩
      · exact w
      · omega
    · rw [hJ _ _ _ (by omega) (by omega)]; exact h6.1 a b (by omega) hb
  · rw [Rch.grow hrn]
    by_cases e : x = n
    · subst e; rw [hrn] at hi; exact absurd hi (Nat.not_lt_zero _)
    · exact h6.2 x i (by omega) hi
  · obtain ⟨z, z1, z2, z3, z4⟩ := h7
    refine ⟨z, z1, ?_, ?_, fun i hi => ?_⟩
    · rw [hI _ _ _ (by omega) (by omega) (by omega) (by omega)]; exact z2
    · rw [hI _ _ _ (by omega) (by omega) (by omega) (by omega)]; exact z3
    · rw [hI _ _ _ (by omega) (by omega) (by omega) (by omega), hI _ _ _ (by omega) (by omega) (by omega) (by omega)]; exact z4 i hi
  · exact a1.key.up rfl
  · refine ⟨e01, by omega, fun q hq => ?_, fun q hq => ?_, fun q hq => ?_⟩
    · by_cases e : q = n
      · subst e; rw [up3_s]
      · rw [up3_k _ _ _ _ _ e]
        simp only [nkR, up3_r, Nat.reduceEqDiff, false_and, if_false]
        exact a2.2.2.1 q (by omega)
    · simp only [nkR, up3_r, Nat.reduceEqDiff, false_and, if_false]; exact a2.2.2.2.1 q hq
    · by_cases e : q = n
      · subst e; exact e0
      · rw [q4 _ _ e]; exact a2.2.2.2.2 q (by omega)
  · rw [hI _ _ _ (by omega) (by omega) (by omega) (by omega)]; exact (a5 c i hc (by omega) q).1
  · rw [hJ _ _ _ (by omega) (by omega)]; exact (a5 c i hc (by omega) q).2.1
  · have e : up3 (nkR R n) 1 0 n (some n) c i q = R c i q := by
      unfold nkR
      rw [up3_n _ _ _ _ _ (by omega), up3_n _ _ _ _ _ (by omega), up3_n _ _ _ _ _ (by omega), up3_n _ _ _ _ _ (by omega), up3_n _ _ _ _ _ (by omega)]
    rw [e]; exact (a5 c i hc (by omega) q).2.2
  · have e : ¬ q = n := by omega
    rw [qs 24 _ (by omega), qm 26 _ (by omega) e, qs 30 _ (by omega), qs 32 _ (by omega), qs 33 _ (by omega), qs 35 _ (by omega), qs 36 _ (by omega), (qJ q e).2]
    exact a6 q (by omega)
  · rw [hI _ _ _ (by omega) (by omega) (by omega) (by omega), hI _ _ _ (by omega) (by omega) (by omega) (by omega)]; exact hP.1 q hq
  · have h0 := hP.2.1 q j hq hj
    have hk := h0.1
    have hsu : ∀ y, ¬ y = n → sure I' y = sure I y := fun y hy => sure_c (fun d => q4 y d hy) v0
    have h1' : PE n rs (u1 aq n 0) rw I' J' (up3 (nkR R n) 1 0 n (some n)) q j (pk q j) := PE_cong h0 ((h5.1 _ hk).2.2.1) (fun t ht => ((h5.1 _ hk).2.2.2 t ht).2.2) (by simp [nkR, up3]) (hI _ _ _ (by omega) (by omega) (by omega) (by omega)) (hI _ _ _ (by omega) (by omega) (by omega) (by omega)) (hI _ _ _ (by omega) (by omega) (by omega) (by omega)) (fun d hd => hI _ _ _ (by omega) (by omega) (by omega) (by omega)) (fun d => hI _ _ _ (by omega) (by omega) (by omega) (by omega)) (fun d => hI _ _ _ (by omega) (by omega) (by omega) (by omega)) (hJ _ _ _ (by omega) (by omega)) (q4 _ _ (by omega)) (q4 _ _ (by omega)) (q4 _ _ (by omega)) (u1_n _ _ (by omega)) (by rw [hsu _ (by omega)]; exact h0.2.1) (fun y hy hsy => ⟨by rw [hsu _ (by omega)]; exact hsy, q4 _ _ (by omega), (qJ y (by omega)).1⟩)
    exact ⟨by omega, h1'.2⟩
  · by_cases e : k = n
    · subst e
      exact Or.inr ⟨ez 16 (by omega) (by omega) (by omega) (by omega), fun q j hq hj he => by have := (hP.2.1 q j hq hj).1; omega⟩
    · rw [q4 _ _ e]; exact hP.2.2.2 k (by omega)
/-- a call that makes a key, in both -/
def BOx (l : Launch) (D : va_G) (dA : Nat → ClassId) (base n : Nat) (ad : Fa) (I : Fi) (J : Fj) (R : Fr) (yc : MethodName) (cc : ByteArray) (mlc : Nat) (rt : Option FieldType) (dc : Nat) (ym : MethodName) (cm : ByteArray) (mlm dm : Nat) (as : List Value) (ver : Nat) : Prop :=
  ∃ (x : Int32), CTx l D dA base yc cc mlc rt dc 5 47 (.ref (ad 0 0) :: as) ad (Nn n) I J R (fun r ad2 N2 I1 J1 R1 => r = some (.int x) ∧ (∀ c i, i < Nn n c → ad2 c i = ad c i) ∧ N2 = Nn (n + 1) ∧ CT l D dA base ym cm mlm rt dm 0 0 (.ref (ad2 11 0) :: as) ad2 (Nn (n + 1)) I1 J1 R1 (fun r a N2 I2 J2 R2 => r = some (.int x) ∧ a = ad2 ∧ N2 = Nn (n + 1) ∧ SIM (n + 1) ver I2 J2 R2))

set_option maxRecDepth 100000 in
set_option maxHeartbeats 4000000 in
theorem c_X4_leafq (l : Launch) (D : va_G) (dA : Nat → ClassId) (base n : Nat) (ad : Fa) (I : Fi) (J : Fj) (R : Fr) (hT : ST n R) (q : Nat) (hk : I 11 0 2 = nI q) (hq : q < 40) (v : Int64) : CT l D dA base yX4_leaf cX4_leaf 3 (some .int) 1 0 0 [.ref (ad 11 0), .long v] ad (Nn n) I J R (po (some (.int (nI q))) ad (Nn n) (mkI (up3 (up3 I 11 0 0 0) 26 0 q 1) q (-1)) (up3 J 34 0 q v) R) := by
  refine CT.of 0 (L0 := [some (.ref (ad 11 0)), some (.long v), none]) (by decide +kernel) rfl (Nat.le_of_ble_eq_true rfl) ?_
  intro p e s m args below meth c C
  refine x_aload_n C dX4_leaf_0 rfl ?_
  refine x_iconst C 0 (by decide) dX4_leaf_1 ?_
  refine x_putI C g_X4_75 rfl (by first | assumption | exact Nat.one_pos) dX4_leaf_2 ?_
  refine x_aload_n C dX4_leaf_5 rfl ?_
  refine x_getI C f_X4_79 rfl (by first | assumption | exact Nat.one_pos) dX4_leaf_6 ?_
  try simp only [up3_r, Nat.reduceEqDiff, and_false, false_and, and_self, and_true, true_and, reduceIte]
  refine x_bipush C 40 (by decide) dX4_leaf_9 ?_
  refine x_icmp_ne C 16 dX4_leaf_11 (by decide) (fun h11 => ?_) (fun h11 => ?_)
  · skip
    refine x_aload_n C dX4_leaf_16 rfl ?_
    refine x_getF C hT f_X4_43 rfl rfl (by first | assumption | exact Nat.one_pos) dX4_leaf_17 ?_
    refine x_aload_n C dX4_leaf_20 rfl ?_
    refine x_getI C f_X4_79 rfl (by first | assumption | exact Nat.one_pos) dX4_leaf_21 ?_
    try simp only [up3_r, Nat.reduceEqDiff, and_false, false_and, and_self, and_true, true_and, reduceIte]
    refine x_lload_n C dX4_leaf_24 rfl ?_
    refine x_lastN C (q) hk rfl rfl (by first | assumption | exact Nat.one_pos) hq (by decide) dX4_leaf_25 ?_
    refine x_aload_n C dX4_leaf_26 rfl ?_
    refine x_getF C hT f_X4_19 rfl rfl (by first | assumption | exact Nat.one_pos) dX4_leaf_27 ?_
    refine x_aload_n C dX4_leaf_30 rfl ?_
    refine x_getI C f_X4_79 rfl (by first | assumption | exact Nat.one_pos) dX4_leaf_31 ?_
    try simp only [up3_r, Nat.reduceEqDiff, and_false, false_and, and_self, and_true, true_and, reduceIte]
    refine x_iconst C 1 (by decide) dX4_leaf_34 ?_
    refine x_iastN C (q) hk rfl rfl (by first | assumption | exact Nat.one_pos) hq (by decide) dX4_leaf_35 ?_
    refine x_aload_n C dX4_leaf_36 rfl ?_
    refine x_iconst C (-1) (by decide) dX4_leaf_37 ?_
    refine x_cV1 C yo_X4_make m_X4_89 rfl rfl (by first | assumption | exact Nat.one_pos) (c_X4_make l D dA base n ad (up3 (up3 I 11 0 0 0) 26 0 q 1) (up3 J 34 0 q v) R hT q (by simp [up3, hk]) hq (-1)) dX4_leaf_38 rfl rfl (Nat.le_of_ble_eq_true rfl) ⟨by decide, by decide⟩ ⟨by decide, by decide⟩ ?_
    exact x_iret C (po_i _ _ _ _ _ _) dX4_leaf_41
  · skip
    rw [hk] at h11
    exact absurd ((nI_eq (b := 40) (by omega) (by decide)).mp h11) (by omega)

set_option maxRecDepth 100000 in
set_option maxHeartbeats 4000000 in
theorem c_X4_keyq (l : Launch) (D : va_G) (dA : Nat → ClassId) (base n : Nat) (ad : Fa) (I : Fi) (J : Fj) (R : Fr) (hT : ST n R) (q : Nat) (hk : I 11 0 2 = nI q) (hq : q < 40) (f : Nat) (hf : f < 6) : CT l D dA base yX4_key cX4_key 2 (some .int) 1 0 0 [.ref (ad 11 0), .int (nI f)] ad (Nn n) I J R (po (some (.int (nI q))) ad (Nn n) (mkI (up3 I 11 0 0 0) q (nI f)) J R) := by
  refine CT.of 0 (L0 := [some (.ref (ad 11 0)), some (.int (nI f))]) (by decide +kernel) rfl (Nat.le_of_ble_eq_true rfl) ?_
  intro p e s m args below meth c C
  refine x_aload_n C dX4_key_0 rfl ?_
  refine x_iconst C 0 (by decide) dX4_key_1 ?_
  refine x_putI C g_X4_75 rfl (by first | assumption | exact Nat.one_pos) dX4_key_2 ?_
  refine x_aload_n C dX4_key_5 rfl ?_
  refine x_getI C f_X4_79 rfl (by first | assumption | exact Nat.one_pos) dX4_key_6 ?_
  try simp only [up3_r, Nat.reduceEqDiff, and_false, false_and, and_self, and_true, true_and, reduceIte]
  refine x_bipush C 40 (by decide) dX4_key_9 ?_
  refine x_icmp_eq C 24 dX4_key_11 (by decide) (fun h11 => ?_) (fun h11 => ?_)
  · skip
    rw [hk] at h11
    exact absurd ((nI_eq (b := 40) (by omega) (by decide)).mp h11) (by omega)
  · skip
    refine x_iload_n C dX4_key_14 rfl ?_
    refine x_if_lt C 24 dX4_key_15 (by decide) (fun h15 => ?_) (fun h15 => ?_)
    · skip
      exact absurd h15 (nI_pos (by omega))
    · skip
      refine x_iload_n C dX4_key_18 rfl ?_
      refine x_bipush C 6 (by decide) dX4_key_19 ?_
      refine x_icmp_lt C 28 dX4_key_21 (by decide) (fun h21 => ?_) (fun h21 => ?_)
      · skip
        refine x_aload_n C dX4_key_28 rfl ?_
        refine x_iload_n C dX4_key_29 rfl ?_
        refine x_cV1 C yo_X4_make m_X4_89 rfl rfl (by first | assumption | exact Nat.one_pos) (c_X4_make l D dA base n ad (up3 I 11 0 0 0) J R hT q (by simp [up3, hk]) hq (nI f)) dX4_key_30 rfl rfl (Nat.le_of_ble_eq_true rfl) ⟨by decide, by decide⟩ ⟨by decide, by decide⟩ ?_
        exact x_iret C (po_i _ _ _ _ _ _) dX4_key_33
      · skip
        exact absurd (nI_lt (b := 6) hf (by decide)) h21

theorem op_leaf (l : Launch) (D : va_G) (dA : Nat → ClassId) (base n ver : Nat) (ad : Fa) (I : Fi) (J : Fj) (R : Fr) (hS : SIM n ver I J R) (v : Int64) : BO l D dA base n ad I J R yX3_leaf cX3_leaf 4 (some .int) 3 yX4_leaf cX4_leaf 3 1 [.long v] ver ∨ (n < 40 ∧ BOx l D dA base n ad I J R yX3_leaf cX3_leaf 4 (some .int) 3 yX4_leaf cX4_leaf 3 1 [.long v] ver) := by
  obtain ⟨rs, aq, zs, rw, ap, pk, hB, hP, h4⟩ := id hS
  obtain ⟨k1, k2, k3, k4, k5, k6, k7, hT, hG, hM, hcl, hdf, hfr⟩ := id hB
  have hn := hG.2.1
  by_cases h40 : n = 40
  · subst h40
    exact Or.inl ⟨_, _, _, _, _, _, _, c_X3_leaf_full0 l D dA base 40 ad I J R hT hG.1 v, c_X4_leaf_full l D dA base 40 ad I J R hT hM.1 v, sim_code hS 0⟩
  · have hlt : n < 40 := by omega
    right
    refine ⟨hlt, nI n, (c_X3_leaf l D dA base ad (Nn n) I J R n rfl hT hG hlt hcl (fun c hc => hdf c n hc (Nat.le_refl _)) v).mono ?_⟩
    rintro r ad2 N2 I2 J2 R2 ⟨rfl, e2, rfl, rfl, rfl, rfl⟩
    refine ⟨rfl, e2, rfl, (c_X4_leafq l D dA base (n + 1) ad2 _ _ _ (hT.key.up rfl) n (by simpa [nkI, up3] using hM.1) hlt v).mono ?_⟩
    rintro r a N I3 J3 R3 ⟨rfl, rfl, rfl, rfl, rfl, rfl⟩
    refine ⟨rfl, rfl, rfl, ?_⟩
    have hd4 := hdf 4 n (by omega) (Nat.le_refl _)
    have hd34 := (hfr n (Nat.le_refl _)).2.2.2.2.2.2.2
    have hd26 := (hfr n (Nat.le_refl _)).2.1
    refine sim_new hS hlt (-1) (Or.inl rfl) (fun c b d q1 q2 q3 q4 => ?_) (fun c b d q1 q2 => ?_) ?_ ?_ ?_ (fun d q1 q2 q3 q4 => ?_) ?_ ?_ ?_ ?_ ?_ ?_ ?_ ?_
    · unfold mkI nkI
      rw [up3_n _ _ _ _ _ (by omega), up3_n _ _ _ _ _ (by omega), up3_n _ _ _ _ _ (by omega), up3_n _ _ _ _ _ (by omega), up3_n _ _ _ _ _ (by omega), up3_n _ _ _ _ _ (by omega), up3_n _ _ _ _ _ (by omega), up3_n _ _ _ _ _ (by omega), up3_n _ _ _ _ _ (by omega), up3_n _ _ _ _ _ (by omega), up3_n _ _ _ _ _ (by omega), up3_n _ _ _ _ _ (by omega)]
    · unfold nkJ
      rw [up3_n _ _ _ _ _ (by omega), up3_n _ _ _ _ _ (by omega), up3_n _ _ _ _ _ (by omega)]
    · simp [mkI, nkI, up3]
    · simp [mkI, nkI, up3]
    · simp [mkI, nkI, up3]
    · have := (hd4 d).1
      unfold mkI nkI
      rw [up3_n _ _ _ _ _ (by omega), up3_n _ _ _ _ _ (by omega), up3_n _ _ _ _ _ (by omega), up3_n _ _ _ _ _ (by omega), up3_n _ _ _ _ _ (by omega), up3_n _ _ _ _ _ (by omega), up3_n _ _ _ _ _ (by omega), up3_n _ _ _ _ _ (by omega), up3_n _ _ _ _ _ (by omega), up3_n _ _ _ _ _ (by omega), up3_n _ _ _ _ _ (by omega), up3_n _ _ _ _ _ (by omega)]; exact this
    · simp [mkI, nkI, up3]
    · simp [mkI, nkI, up3]
    · simp [mkI, nkI, up3]
    · simp [nkJ, up3]
    · simp [mkI, nkI, up3]
    · exact fun _ => ⟨by simp [mkI, nkI, up3], by simp [mkI, nkI, up3]; rw [k3.1, k3.2.1]⟩
    · exact fun z => absurd rfl z
    · simp [nkJ, up3]

theorem op_key (l : Launch) (D : va_G) (dA : Nat → ClassId) (base n ver : Nat) (ad : Fa) (I : Fi) (J : Fj) (R : Fr) (hS : SIM n ver I J R) (v : Int32) : BO l D dA base n ad I J R yX3_key cX3_key 2 (some .int) 3 yX4_key cX4_key 2 1 [.int v] ver ∨ (n < 40 ∧ BOx l D dA base n ad I J R yX3_key cX3_key 2 (some .int) 3 yX4_key cX4_key 2 1 [.int v] ver) := by
  obtain ⟨rs, aq, zs, rw, ap, pk, hB, hP, h4⟩ := id hS
  obtain ⟨k1, k2, k3, k4, k5, k6, k7, hT, hG, hM, hcl, hdf, hfr⟩ := id hB
  have hn := hG.2.1
  by_cases h40 : n = 40
  · subst h40
    exact Or.inl ⟨_, _, _, _, _, _, _, c_X3_key_full l D dA base 40 ad I J R hT hG.1 v, c_X4_key_full l D dA base 40 ad I J R hT hM.1 v, sim_code hS 0⟩
  rcases nIk (n := 6) v (by decide) with hv | ⟨f, hf, rfl⟩
  · exact Or.inl ⟨_, _, _, _, _, _, _, c_X3_key_none l D dA base n ad I J R hT v hv, c_X4_key_none l D dA base n ad I J R hT v hv, sim_code hS 0⟩
  · have hlt : n < 40 := by omega
    right
    refine ⟨hlt, nI n, (c_X3_key l D dA base ad (Nn n) I J R n rfl hT hG hlt hcl (fun c hc => hdf c n hc (Nat.le_refl _)) f hf).mono ?_⟩
    rintro r ad2 N2 I2 J2 R2 ⟨rfl, e2, rfl, rfl, rfl, rfl⟩
    refine ⟨rfl, e2, rfl, (c_X4_keyq l D dA base (n + 1) ad2 _ _ _ (hT.key.up rfl) n (by simpa [nkI, up3] using hM.1) hlt f hf).mono ?_⟩
    rintro r a N I3 J3 R3 ⟨rfl, rfl, rfl, rfl, rfl, rfl⟩
    refine ⟨rfl, rfl, rfl, ?_⟩
    have hd4 := hdf 4 n (by omega) (Nat.le_refl _)
    have hd34 := (hfr n (Nat.le_refl _)).2.2.2.2.2.2.2
    have hd26 := (hfr n (Nat.le_refl _)).2.1
    refine sim_new hS hlt (nI f) (Or.inr ⟨f, hf, rfl⟩) (fun c b d q1 q2 q3 q4 => ?_) (fun c b d q1 q2 => ?_) ?_ ?_ ?_ (fun d q1 q2 q3 q4 => ?_) ?_ ?_ ?_ ?_ ?_ ?_ ?_ ?_
    · unfold mkI nkI
      rw [up3_n _ _ _ _ _ (by omega), up3_n _ _ _ _ _ (by omega), up3_n _ _ _ _ _ (by omega), up3_n _ _ _ _ _ (by omega), up3_n _ _ _ _ _ (by omega), up3_n _ _ _ _ _ (by omega), up3_n _ _ _ _ _ (by omega), up3_n _ _ _ _ _ (by omega), up3_n _ _ _ _ _ (by omega)]
    · unfold nkJ
      rw [up3_n _ _ _ _ _ (by omega)]
    · simp [mkI, nkI, up3]
    · simp [mkI, nkI, up3]
    · simp [mkI, nkI, up3]
    · have := (hd4 d).1
      unfold mkI nkI
      rw [up3_n _ _ _ _ _ (by omega), up3_n _ _ _ _ _ (by omega), up3_n _ _ _ _ _ (by omega), up3_n _ _ _ _ _ (by omega), up3_n _ _ _ _ _ (by omega), up3_n _ _ _ _ _ (by omega), up3_n _ _ _ _ _ (by omega), up3_n _ _ _ _ _ (by omega), up3_n _ _ _ _ _ (by omega)]; exact this
    · simp [mkI, nkI, up3]
    · simp [mkI, nkI, up3]
    · simp [mkI, nkI, up3]; rw [(hd4 7).1, hd26]
    · simp [nkJ, up3]; rw [(hd4 8).2.1, hd34]
    · simp [mkI, nkI, up3]
    · exact fun z => absurd z (nI_nm (by omega))
    · intro _; simp [nkJ, up3]; exact (hd4 8).2.1
    · simp [nkJ, up3]

/-! a key is made -/
def nkI (I : Fi) (n : Nat) (fn : Int32) : Fi := up3 (up3 I 4 n 0 (nI n)) 4 n 1 fn
def nkJ (J : Fj) (n : Nat) : Fj := up3 J 4 n 4 (1 <<< ((nI n).toInt64 &&& 63))
def nkR (R : Fr) (n : Nat) : Fr := up3 (up3 (up3 (up3 R 4 n 2 (some n)) 4 n 12 (some n)) 7 n 2 (some n)) 4 n 17 (some n)
theorem Nn_s (n : Nat) : upN (upN (upN (upN (upN (Nn n) 4) 5) 6) 7) 8 = Nn (n + 1) := by
  funext c
  by_cases h4 : c = 4
  · subst h4; rfl
  by_cases h5 : c = 5
  · subst h5; rfl
  by_cases h6 : c = 6
  · subst h6; rfl
  by_cases h7 : c = 7
  · subst h7; rfl
  by_cases h8 : c = 8
  · subst h8; rfl
  simp only [upN, h4, h5, h6, h7, h8, if_false]
  unfold Nn
  split <;> first | rfl | omega
theorem Nn_le {n c i : Nat} (h : i < Nn (n + 1) c) : i < Nn n c ∨ (i = n ∧ (c = 4 ∨ c = 5 ∨ c = 6 ∨ c = 7 ∨ c = 8)) := by
  rw [← Nn_s] at h
  by_cases h4 : c = 4
  · subst h4; have h : i < n + 1 := h; have : Nn n 4 = n := rfl; omega
  by_cases h5 : c = 5
  · subst h5; have h : i < n + 1 := h; have : Nn n 5 = n := rfl; omega
  by_cases h6 : c = 6
  · subst h6; have h : i < n + 1 := h; have : Nn n 6 = n := rfl; omega
  by_cases h7 : c = 7
  · subst h7; have h : i < n + 1 := h; have : Nn n 7 = n := rfl; omega
  by_cases h8 : c = 8
  · subst h8; have h : i < n + 1 := h; have : Nn n 8 = n := rfl; omega
  simp only [upN, h4, h5, h6, h7, h8, if_false] at h
  exact Or.inl h
theorem Nn_lt4 {n c i : Nat} (h : i < Nn n c) (hc : c = 4 ∨ c = 7) : i < n := by rcases hc with rfl | rfl <;> exact h
theorem ST.key {n : Nat} {R : Fr} (h : ST n R) : ST (n + 1) (nkR R n) := fun c i k hi hs => by
  unfold nkR
  rcases Nn_le hi with hi | ⟨rfl, hc⟩
  · have hne : (c = 4 ∨ c = 7) → i ≠ n := fun hc => Nat.ne_of_lt (Nn_lt4 hi hc)
    rw [up3_n _ _ _ _ _ (fun z => hne (Or.inl z.1) z.2.1), up3_n _ _ _ _ _ (fun z => hne (Or.inr z.1) z.2.1), up3_n _ _ _ _ _ (fun z => hne (Or.inl z.1) z.2.1), up3_n _ _ _ _ _ (fun z => hne (Or.inl z.1) z.2.1)]
    exact h c i k hi hs
  · rcases hc with rfl | rfl | rfl | rfl | rfl
    · have : k = 2 ∨ k = 12 ∨ k = 17 := by simpa [sfin, Bool.or_eq_true, or_assoc] using hs
      rcases this with rfl | rfl | rfl <;> simp [up3]
    · simp [sfin] at hs
    · simp [sfin] at hs
    · have : k = 2 := by simpa [sfin] using hs
      subst this
      simp [up3]
    · simp [sfin] at hs
set_option maxRecDepth 100000 in
set_option maxHeartbeats 4000000 in
theorem c_X3_addKey (l : Launch) (D : va_G) (dA : Nat → ClassId) (base n : Nat) (ad : Fa) (I : Fi) (J : Fj) (R : Fr) (hT : ST n R) (k : Nat) (hk : k < n) (hc : I 0 0 1 = nI k) (hk40 : k < 40) : CT l D dA base yX3_addKey cX3_addKey 2 (some .int) 0 0 0 [.ref (ad 0 0), .ref (ad 4 k)] ad (Nn n) I J R (po (some (.int (I 4 k 0))) ad (Nn n) (up3 I 0 0 1 (nI (k + 1))) J (up3 R 1 0 k (some k))) := by
  refine CT.of 0 (L0 := [some (.ref (ad 0 0)), some (.ref (ad 4 k))]) (by decide +kernel) rfl (Nat.le_of_ble_eq_true rfl) ?_
  intro p e s m args below meth c C
  refine x_aload_n C dX3_addKey_0 rfl ?_
  refine x_getF C hT f_X3_11 rfl rfl (by first | assumption | exact Nat.one_pos) dX3_addKey_1 ?_
  refine x_aload_n C dX3_addKey_4 rfl ?_
  refine x_getI C f_X3_26 rfl (by first | assumption | exact Nat.one_pos) dX3_addKey_5 ?_
  refine x_aload_n C dX3_addKey_8 rfl ?_
  refine x_aastN C (k) hc rfl rfl rfl rfl rfl (by first | assumption | exact Nat.one_pos) (by first | assumption | exact Nat.one_pos) hk40 (by decide) dX3_addKey_9 ?_
  refine x_aload_n C dX3_addKey_10 rfl ?_
  refine x_dup C rfl dX3_addKey_11 ?_
  refine x_getI C f_X3_26 rfl (by first | assumption | exact Nat.one_pos) dX3_addKey_12 ?_
  refine x_iconst C 1 (by decide) dX3_addKey_15 ?_
  refine x_iadd C dX3_addKey_16 ?_
  refine x_putI C g_X3_26 rfl (by first | assumption | exact Nat.one_pos) dX3_addKey_17 ?_
  refine x_aload_n C dX3_addKey_20 rfl ?_
  refine x_getI C f_X3_146 rfl (by first | assumption | exact Nat.one_pos) dX3_addKey_21 ?_
  exact x_iret C (⟨by simp [up3], rfl, rfl, by rw [hc, nI_1], rfl, rfl⟩) dX3_addKey_24

set_option maxRecDepth 100000 in
set_option maxHeartbeats 4000000 in
theorem c_X3_leaf (l : Launch) (D : va_G) (dA : Nat → ClassId) (base : Nat) (ad : Fa) (N : Nat → Nat) (I : Fi) (J : Fj) (R : Fr) (n : Nat) (hN : N = Nn n) (hT : ST n R) (hG : KG n I R) (hn : n < 40) (hcl : CLo (Nn n) R) (hd : ∀ c, c = 4 ∨ c = 5 ∨ c = 6 ∨ c = 7 ∨ c = 8 → Dft I J R c n) (v : Int64) : CTx l D dA base yX3_leaf cX3_leaf 4 (some .int) 3 5 47 [.ref (ad 0 0), .long v] ad N I J R (fun r ad2 N2 I2 J2 R2 => r = some (.int (nI n)) ∧ (∀ c i, i < Nn n c → ad2 c i = ad c i) ∧ N2 = Nn (n + 1) ∧ I2 = up3 (up3 (up3 (nkI I n (-1)) 4 n 7 1) 4 n 9 (I 0 0 2)) 0 0 1 (nI (n + 1)) ∧ J2 = up3 (nkJ J n) 4 n 8 v ∧ R2 = up3 (nkR R n) 1 0 n (some n)) := by
  refine CTx.of 1 (L0 := [some (.ref (ad 0 0)), some (.long v), none, none]) (by decide +kernel) rfl (Nat.le_of_ble_eq_true rfl) ?_
  intro p e s m args below meth c C hX hnm
  subst hN
  refine x_aload_n C dX3_leaf_0 rfl ?_
  refine x_getI C f_X3_26 rfl (by first | assumption | exact Nat.one_pos) dX3_leaf_1 ?_
  try simp only [up3_r, Nat.reduceEqDiff, and_false, false_and, and_self, and_true, true_and, reduceIte]
  refine x_bipush C 40 (by decide) dX3_leaf_4 ?_
  refine x_icmp_lt C 11 dX3_leaf_6 (by decide) (fun h6 => ?_) (fun h6 => ?_)
  · skip
    refine x_new C (kc := 4) tyX0 rfl rfl tyX0_ok (by decide) mc_X3_9 ins_X0 ini_X0 hcl (hd 4 (by omega)) (by decide) (by decide) dX3_leaf_11 (fun ad1 hA1 => ?_)
    have h00 : 0 < upN (Nn n) 4 0 := Nat.one_pos
    rw [← hA1 0 0 Nat.one_pos]
    refine x_dup C rfl dX3_leaf_14 ?_
    refine x_aload_n C dX3_leaf_15 rfl ?_
    refine x_getI C f_X3_26 rfl (by first | assumption | exact Nat.one_pos) dX3_leaf_16 ?_
    try simp only [up3_r, Nat.reduceEqDiff, and_false, false_and, and_self, and_true, true_and, reduceIte]
    refine x_iconst C (-1) (by decide) dX3_leaf_19 ?_
    rw [hG.1]
    refine x_callI C hX yi_X0_init mi_X3_32 (c_X0_init l D dA base ad1 (upN (Nn n) 4) I J R n (nI n) (-1) (upN_s rfl) rfl rfl rfl rfl (hcl.new (hd 4 (by omega))) (hd 5 (by omega)) (hd 6 (by omega)) (hd 7 (by omega)) (hd 8 (by omega))) dX3_leaf_20 rfl rfl (Nat.le_of_ble_eq_true rfl) ⟨by decide, by decide⟩ ⟨by decide, by decide⟩ ?_
    intro r ad2 N2 I2 J2 R2 h2
    obtain ⟨rfl, hA2, rfl, rfl, rfl, rfl⟩ := h2
    simp only [Option.toList, List.nil_append]
    rw [Nn_s]
    have e0 : ad1 0 0 = ad2 0 0 := (hA2 0 0 h00).symm
    have e4 : ad1 4 (Nn n 4) = ad2 4 n := (hA2 4 n (upN_s rfl)).symm
    rw [e0, e4]
    have hT2 := ST.key hT
    have hin : n < n + 1 := Nat.lt_succ_self n
    refine x_astore_n C dX3_leaf_23 (by decide) rfl rfl ?_
    refine x_aload_n C dX3_leaf_24 rfl ?_
    refine x_iconst C 1 (by decide) dX3_leaf_25 ?_
    refine x_putI C g_X3_35 rfl (by first | assumption | exact Nat.one_pos) dX3_leaf_26 ?_
    refine x_aload_n C dX3_leaf_29 rfl ?_
    refine x_lload_n C dX3_leaf_30 rfl ?_
    refine x_putJ C g_X3_38 rfl (by first | assumption | exact Nat.one_pos) dX3_leaf_31 ?_
    refine x_aload_n C dX3_leaf_34 rfl ?_
    refine x_aload_n C dX3_leaf_35 rfl ?_
    refine x_getI C f_X3_42 rfl (by first | assumption | exact Nat.one_pos) dX3_leaf_36 ?_
    try simp only [up3_r, Nat.reduceEqDiff, and_false, false_and, and_self, and_true, true_and, reduceIte]
    refine x_putI C g_X3_45 rfl (by first | assumption | exact Nat.one_pos) dX3_leaf_39 ?_
    refine x_aload_n C dX3_leaf_42 rfl ?_
    refine x_aload_n C dX3_leaf_43 rfl ?_
    refine x_cV1 C yo_X3_addKey m_X3_48 rfl rfl (by first | assumption | exact Nat.one_pos) (c_X3_addKey l D dA base (n + 1) ad2 _ _ _ hT2 n hin (by simp [up3, hG.1]) hn) dX3_leaf_44 rfl rfl (Nat.le_of_ble_eq_true rfl) ⟨by decide, by decide⟩ ⟨by decide, by decide⟩ ?_
    exact x_iret C (⟨by simp [up3], fun c i9 h9 => (hA2 c i9 (upN_l h9)).trans (hA1 c i9 h9), rfl, by simp [nkI, up3_r], rfl, rfl⟩) dX3_leaf_47
  · skip
    rw [hG.1] at h6
    exact absurd (nI_lt (b := 40) hn (by decide)) h6

set_option maxRecDepth 100000 in
set_option maxHeartbeats 4000000 in
theorem c_X3_key (l : Launch) (D : va_G) (dA : Nat → ClassId) (base : Nat) (ad : Fa) (N : Nat → Nat) (I : Fi) (J : Fj) (R : Fr) (n : Nat) (hN : N = Nn n) (hT : ST n R) (hG : KG n I R) (hn : n < 40) (hcl : CLo (Nn n) R) (hd : ∀ c, c = 4 ∨ c = 5 ∨ c = 6 ∨ c = 7 ∨ c = 8 → Dft I J R c n) (f : Nat) (hf : f < 6) : CTx l D dA base yX3_key cX3_key 2 (some .int) 3 5 47 [.ref (ad 0 0), .int (nI f)] ad N I J R (fun r ad2 N2 I2 J2 R2 => r = some (.int (nI n)) ∧ (∀ c i, i < Nn n c → ad2 c i = ad c i) ∧ N2 = Nn (n + 1) ∧ I2 = up3 (nkI I n (nI f)) 0 0 1 (nI (n + 1)) ∧ J2 = nkJ J n ∧ R2 = up3 (nkR R n) 1 0 n (some n)) := by
  refine CTx.of 0 (L0 := [some (.ref (ad 0 0)), some (.int (nI f))]) (by decide +kernel) rfl (Nat.le_of_ble_eq_true rfl) ?_
  intro p e s m args below meth c C hX hnm
  subst hN
  refine x_aload_n C dX3_key_0 rfl ?_
  refine x_getI C f_X3_26 rfl (by first | assumption | exact Nat.one_pos) dX3_key_1 ?_
  try simp only [up3_r, Nat.reduceEqDiff, and_false, false_and, and_self, and_true, true_and, reduceIte]
  refine x_bipush C 40 (by decide) dX3_key_4 ?_
  refine x_icmp_ge C 19 dX3_key_6 (by decide) (fun h6 => ?_) (fun h6 => ?_)
  · skip
    rw [hG.1] at h6
    exact absurd h6 (nI_ge (b := 40) hn (by decide))
  · skip
    refine x_iload_n C dX3_key_9 rfl ?_
    refine x_if_lt C 19 dX3_key_10 (by decide) (fun h10 => ?_) (fun h10 => ?_)
    · skip
      exact absurd h10 (nI_pos (by omega))
    · skip
      refine x_iload_n C dX3_key_13 rfl ?_
      refine x_bipush C 6 (by decide) dX3_key_14 ?_
      refine x_icmp_lt C 21 dX3_key_16 (by decide) (fun h16 => ?_) (fun h16 => ?_)
      · skip
        refine x_aload_n C dX3_key_21 rfl ?_
        refine x_new C (kc := 4) tyX0 rfl rfl tyX0_ok (by decide) mc_X3_9 ins_X0 ini_X0 hcl (hd 4 (by omega)) (by decide) (by decide) dX3_key_22 (fun ad1 hA1 => ?_)
        have h00 : 0 < upN (Nn n) 4 0 := Nat.one_pos
        rw [← hA1 0 0 Nat.one_pos]
        refine x_dup C rfl dX3_key_25 ?_
        refine x_aload_n C dX3_key_26 rfl ?_
        refine x_getI C f_X3_26 rfl (by first | assumption | exact Nat.one_pos) dX3_key_27 ?_
        try simp only [up3_r, Nat.reduceEqDiff, and_false, false_and, and_self, and_true, true_and, reduceIte]
        refine x_iload_n C dX3_key_30 rfl ?_
        rw [hG.1]
        refine x_callI C hX yi_X0_init mi_X3_32 (c_X0_init l D dA base ad1 (upN (Nn n) 4) I J R n (nI n) (nI f) (upN_s rfl) rfl rfl rfl rfl (hcl.new (hd 4 (by omega))) (hd 5 (by omega)) (hd 6 (by omega)) (hd 7 (by omega)) (hd 8 (by omega))) dX3_key_31 rfl rfl (Nat.le_of_ble_eq_true rfl) ⟨by decide, by decide⟩ ⟨by decide, by decide⟩ ?_
        intro r ad2 N2 I2 J2 R2 h2
        obtain ⟨rfl, hA2, rfl, rfl, rfl, rfl⟩ := h2
        simp only [Option.toList, List.nil_append]
        rw [Nn_s]
        have e0 : ad1 0 0 = ad2 0 0 := (hA2 0 0 h00).symm
        have e4 : ad1 4 (Nn n 4) = ad2 4 n := (hA2 4 n (upN_s rfl)).symm
        rw [e0, e4]
        have hT2 := ST.key hT
        have hin : n < n + 1 := Nat.lt_succ_self n
        refine x_cV1 C yo_X3_addKey m_X3_48 rfl rfl (by first | assumption | exact Nat.one_pos) (c_X3_addKey l D dA base (n + 1) ad2 _ _ _ hT2 n hin (by simp [up3, hG.1]) hn) dX3_key_34 rfl rfl (Nat.le_of_ble_eq_true rfl) ⟨by decide, by decide⟩ ⟨by decide, by decide⟩ ?_
        exact x_iret C (⟨by simp [up3], fun c i9 h9 => (hA2 c i9 (upN_l h9)).trans (hA1 c i9 h9), rfl, by simp [nkI, up3_r], rfl, rfl⟩) dX3_key_37
      · skip
        exact absurd (nI_lt (b := 6) hf (by decide)) h16

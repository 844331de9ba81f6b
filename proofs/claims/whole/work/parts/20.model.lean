/-! the reference: small methods -/
theorem ix8 (k j : Nat) : (8 : Int32) * nI k + nI j = nI (8 * k + j) := by rw [show (8 : Int32) = nI 8 from rfl, pk_mul, nI_add]
theorem ix40 (k j : Nat) : (40 : Int32) * nI k + nI j = nI (40 * k + j) := by rw [show (40 : Int32) = nI 40 from rfl, pk_mul, nI_add]
/-- the reference has n keys -/
def MG (n : Nat) (I : Fi) : Prop := I 11 0 2 = nI n ∧ n ≤ 40
theorem MG.up {n : Nat} {I : Fi} (h : MG n I) {c i k : Nat} {v : Int32} (hc : ¬ (c = 11 ∧ k = 2)) : MG n (up3 I c i k v) := ⟨by rw [up3_n _ _ _ _ _ (fun z => hc ⟨z.1.symm, z.2.2.symm⟩)]; exact h.1, h.2⟩
set_option maxRecDepth 100000 in
set_option maxHeartbeats 4000000 in
theorem c_X4_isKey_in (l : Launch) (D : va_G) (dA : Nat → ClassId) (base n : Nat) (ad : Fa) (I : Fi) (J : Fj) (R : Fr) (hT : ST n R) (hM : MG n I) (k : Nat) (hk : k < n)  : CT l D dA base yX4_isKey cX4_isKey 2 (some .boolean) 0 0 0 [.ref (ad 11 0), .int (nI k)] ad (Nn n) I J R (po (some (.int 1)) ad (Nn n) I J R) := by
  refine CT.of 0 (L0 := [some (.ref (ad 11 0)), some (.int (nI k))]) (by decide +kernel) rfl (Nat.le_of_ble_eq_true rfl) ?_
  intro p e s m args below meth c C
  have hn40 := hM.2
  refine x_iload_n C dX4_isKey_0 rfl ?_
  refine x_if_lt C 16 dX4_isKey_1 (by decide) (fun h1 => ?_) (fun h1 => ?_)
  · skip
    exact absurd h1 (nI_pos (by omega))
  · skip
    refine x_iload_n C dX4_isKey_4 rfl ?_
    refine x_aload_n C dX4_isKey_5 rfl ?_
    refine x_getI C f_X4_79 rfl (by first | assumption | exact Nat.one_pos) dX4_isKey_6 ?_
    refine x_icmp_ge C 16 dX4_isKey_9 (by decide) (fun h9 => ?_) (fun h9 => ?_)
    · skip
      rw [hM.1] at h9
      exact absurd h9 (nI_ge hk (by omega))
    · skip
      refine x_iconst C 1 (by decide) dX4_isKey_12 ?_
      refine x_goto C 17 dX4_isKey_13 (by decide) ?_
      exact x_zret C (by first | exact Or.inl rfl | exact Or.inr rfl | assumption) (po_i _ _ _ _ _ _) dX4_isKey_17

set_option maxRecDepth 100000 in
set_option maxHeartbeats 4000000 in
theorem c_X4_isKey_out (l : Launch) (D : va_G) (dA : Nat → ClassId) (base n : Nat) (ad : Fa) (I : Fi) (J : Fj) (R : Fr) (hT : ST n R) (hM : MG n I) (x : Int32) (hx : x < 0 ∨ nI n ≤ x)  : CT l D dA base yX4_isKey cX4_isKey 2 (some .boolean) 0 0 0 [.ref (ad 11 0), .int x] ad (Nn n) I J R (po (some (.int 0)) ad (Nn n) I J R) := by
  refine CT.of 0 (L0 := [some (.ref (ad 11 0)), some (.int x)]) (by decide +kernel) rfl (Nat.le_of_ble_eq_true rfl) ?_
  intro p e s m args below meth c C
  refine x_iload_n C dX4_isKey_0 rfl ?_
  refine x_if_lt C 16 dX4_isKey_1 (by decide) (fun h1 => ?_) (fun h1 => ?_)
  · skip
    refine x_iconst C 0 (by decide) dX4_isKey_16 ?_
    exact x_zret C (by first | exact Or.inl rfl | exact Or.inr rfl | assumption) (po_i _ _ _ _ _ _) dX4_isKey_17
  · skip
    refine x_iload_n C dX4_isKey_4 rfl ?_
    refine x_aload_n C dX4_isKey_5 rfl ?_
    refine x_getI C f_X4_79 rfl (by first | assumption | exact Nat.one_pos) dX4_isKey_6 ?_
    refine x_icmp_ge C 16 dX4_isKey_9 (by decide) (fun h9 => ?_) (fun h9 => ?_)
    · skip
      refine x_iconst C 0 (by decide) dX4_isKey_16 ?_
      exact x_zret C (by first | exact Or.inl rfl | exact Or.inr rfl | assumption) (po_i _ _ _ _ _ _) dX4_isKey_17
    · skip
      rw [hM.1] at h9
      exact absurd (hx.elim (fun q => absurd q h1) id) h9

set_option maxRecDepth 100000 in
set_option maxHeartbeats 4000000 in
theorem c_X4_isLeaf_in (l : Launch) (D : va_G) (dA : Nat → ClassId) (base n : Nat) (ad : Fa) (I : Fi) (J : Fj) (R : Fr) (hT : ST n R) (hM : MG n I) (k : Nat) (hk : k < n)  : CT l D dA base yX4_isLeaf cX4_isLeaf 2 (some .boolean) 1 0 0 [.ref (ad 11 0), .int (nI k)] ad (Nn n) I J R (po (some (.int (if I 23 0 k = -1 then 1 else 0))) ad (Nn n) I J R) := by
  refine CT.of 0 (L0 := [some (.ref (ad 11 0)), some (.int (nI k))]) (by decide +kernel) rfl (Nat.le_of_ble_eq_true rfl) ?_
  intro p e s m args below meth c C
  have hn40 := hM.2
  refine x_aload_n C dX4_isLeaf_0 rfl ?_
  refine x_iload_n C dX4_isLeaf_1 rfl ?_
  refine x_cV1 C yo_X4_isKey m_X4_82 rfl rfl (by first | assumption | exact Nat.one_pos) (c_X4_isKey_in l D dA base n ad I J R hT hM k hk) dX4_isLeaf_2 rfl rfl (Nat.le_of_ble_eq_true rfl) ⟨by decide, by decide⟩ ⟨by decide, by decide⟩ ?_
  refine x_if_eq C 22 dX4_isLeaf_5 (by decide) (fun h5 => ?_) (fun h5 => ?_)
  · skip
    exact absurd h5 (by decide)
  · skip
    refine x_aload_n C dX4_isLeaf_8 rfl ?_
    refine x_getF C hT f_X4_7 rfl rfl (by first | assumption | exact Nat.one_pos) dX4_isLeaf_9 ?_
    refine x_iload_n C dX4_isLeaf_12 rfl ?_
    refine x_ialdN C (k) rfl rfl rfl (by first | assumption | exact Nat.one_pos) (by omega) (by decide) dX4_isLeaf_13 ?_
    refine x_iconst C (-1) (by decide) dX4_isLeaf_14 ?_
    refine x_icmp_ne C 22 dX4_isLeaf_15 (by decide) (fun h15 => ?_) (fun h15 => ?_)
    · skip
      refine x_iconst C 0 (by decide) dX4_isLeaf_22 ?_
      exact x_zret C (by first | exact Or.inl rfl | exact Or.inr rfl | assumption) (po_r (by simp_all)) dX4_isLeaf_23
    · skip
      refine x_iconst C 1 (by decide) dX4_isLeaf_18 ?_
      refine x_goto C 23 dX4_isLeaf_19 (by decide) ?_
      exact x_zret C (by first | exact Or.inl rfl | exact Or.inr rfl | assumption) (po_r (by simp_all)) dX4_isLeaf_23

set_option maxRecDepth 100000 in
set_option maxHeartbeats 4000000 in
theorem c_X4_isLeaf_out (l : Launch) (D : va_G) (dA : Nat → ClassId) (base n : Nat) (ad : Fa) (I : Fi) (J : Fj) (R : Fr) (hT : ST n R) (hM : MG n I) (x : Int32) (hx : x < 0 ∨ nI n ≤ x)  : CT l D dA base yX4_isLeaf cX4_isLeaf 2 (some .boolean) 1 0 0 [.ref (ad 11 0), .int x] ad (Nn n) I J R (po (some (.int 0)) ad (Nn n) I J R) := by
  refine CT.of 0 (L0 := [some (.ref (ad 11 0)), some (.int x)]) (by decide +kernel) rfl (Nat.le_of_ble_eq_true rfl) ?_
  intro p e s m args below meth c C
  refine x_aload_n C dX4_isLeaf_0 rfl ?_
  refine x_iload_n C dX4_isLeaf_1 rfl ?_
  refine x_cV1 C yo_X4_isKey m_X4_82 rfl rfl (by first | assumption | exact Nat.one_pos) (c_X4_isKey_out l D dA base n ad I J R hT hM x hx) dX4_isLeaf_2 rfl rfl (Nat.le_of_ble_eq_true rfl) ⟨by decide, by decide⟩ ⟨by decide, by decide⟩ ?_
  refine x_if_eq C 22 dX4_isLeaf_5 (by decide) (fun h5 => ?_) (fun h5 => ?_)
  · skip
    refine x_iconst C 0 (by decide) dX4_isLeaf_22 ?_
    exact x_zret C (by first | exact Or.inl rfl | exact Or.inr rfl | assumption) (po_i _ _ _ _ _ _) dX4_isLeaf_23
  · skip
    exact absurd rfl h5

def mkI (I : Fi) (n : Nat) (f : Int32) : Fi := up3 (up3 (up3 (up3 (up3 I 23 0 n f) 27 0 n (-1)) 28 0 n (I 11 0 1)) 29 0 n (-1)) 11 0 2 (nI (n + 1))
set_option maxRecDepth 100000 in
set_option maxHeartbeats 4000000 in
theorem c_X4_make (l : Launch) (D : va_G) (dA : Nat → ClassId) (base n : Nat) (ad : Fa) (I : Fi) (J : Fj) (R : Fr) (hT : ST n R) (q : Nat) (hk : I 11 0 2 = nI q) (hq : q < 40) (f : Int32) : CT l D dA base yX4_make cX4_make 2 (some .int) 0 0 0 [.ref (ad 11 0), .int f] ad (Nn n) I J R (po (some (.int (nI q))) ad (Nn n) (mkI I q f) J R) := by
  refine CT.of 0 (L0 := [some (.ref (ad 11 0)), some (.int f)]) (by decide +kernel) rfl (Nat.le_of_ble_eq_true rfl) ?_
  intro p e s m args below meth c C
  refine x_aload_n C dX4_make_0 rfl ?_
  refine x_getF C hT f_X4_7 rfl rfl (by first | assumption | exact Nat.one_pos) dX4_make_1 ?_
  refine x_aload_n C dX4_make_4 rfl ?_
  refine x_getI C f_X4_79 rfl (by first | assumption | exact Nat.one_pos) dX4_make_5 ?_
  try simp only [up3_r, Nat.reduceEqDiff, and_false, false_and, and_self, and_true, true_and, reduceIte]
  refine x_iload_n C dX4_make_8 rfl ?_
  refine x_iastN C (q) hk rfl rfl (by first | assumption | exact Nat.one_pos) hq (by decide) dX4_make_9 ?_
  refine x_aload_n C dX4_make_10 rfl ?_
  refine x_getF C hT f_X4_22 rfl rfl (by first | assumption | exact Nat.one_pos) dX4_make_11 ?_
  refine x_aload_n C dX4_make_14 rfl ?_
  refine x_getI C f_X4_79 rfl (by first | assumption | exact Nat.one_pos) dX4_make_15 ?_
  try simp only [up3_r, Nat.reduceEqDiff, and_false, false_and, and_self, and_true, true_and, reduceIte]
  refine x_iconst C (-1) (by decide) dX4_make_18 ?_
  refine x_iastN C (q) hk rfl rfl (by first | assumption | exact Nat.one_pos) hq (by decide) dX4_make_19 ?_
  refine x_aload_n C dX4_make_20 rfl ?_
  refine x_getF C hT f_X4_25 rfl rfl (by first | assumption | exact Nat.one_pos) dX4_make_21 ?_
  refine x_aload_n C dX4_make_24 rfl ?_
  refine x_getI C f_X4_79 rfl (by first | assumption | exact Nat.one_pos) dX4_make_25 ?_
  try simp only [up3_r, Nat.reduceEqDiff, and_false, false_and, and_self, and_true, true_and, reduceIte]
  refine x_aload_n C dX4_make_28 rfl ?_
  refine x_getI C f_X4_86 rfl (by first | assumption | exact Nat.one_pos) dX4_make_29 ?_
  try simp only [up3_r, Nat.reduceEqDiff, and_false, false_and, and_self, and_true, true_and, reduceIte]
  refine x_iastN C (q) hk rfl rfl (by first | assumption | exact Nat.one_pos) hq (by decide) dX4_make_32 ?_
  refine x_aload_n C dX4_make_33 rfl ?_
  refine x_getF C hT f_X4_28 rfl rfl (by first | assumption | exact Nat.one_pos) dX4_make_34 ?_
  refine x_aload_n C dX4_make_37 rfl ?_
  refine x_getI C f_X4_79 rfl (by first | assumption | exact Nat.one_pos) dX4_make_38 ?_
  try simp only [up3_r, Nat.reduceEqDiff, and_false, false_and, and_self, and_true, true_and, reduceIte]
  refine x_iconst C (-1) (by decide) dX4_make_41 ?_
  refine x_iastN C (q) hk rfl rfl (by first | assumption | exact Nat.one_pos) hq (by decide) dX4_make_42 ?_
  refine x_aload_n C dX4_make_43 rfl ?_
  refine x_dup C rfl dX4_make_44 ?_
  refine x_getI C f_X4_79 rfl (by first | assumption | exact Nat.one_pos) dX4_make_45 ?_
  try simp only [up3_r, Nat.reduceEqDiff, and_false, false_and, and_self, and_true, true_and, reduceIte]
  refine x_iconst C 1 (by decide) dX4_make_48 ?_
  refine x_iadd C dX4_make_49 ?_
  refine x_putI C g_X4_79 rfl (by first | assumption | exact Nat.one_pos) dX4_make_50 ?_
  refine x_aload_n C dX4_make_53 rfl ?_
  refine x_getI C f_X4_79 rfl (by first | assumption | exact Nat.one_pos) dX4_make_54 ?_
  try simp only [up3_r, Nat.reduceEqDiff, and_false, false_and, and_self, and_true, true_and, reduceIte]
  refine x_iconst C 1 (by decide) dX4_make_57 ?_
  refine x_isub C dX4_make_58 ?_
  exact x_iret C (⟨by rw [hk, nI_1, nI_pred], rfl, rfl, by (unfold mkI; rw [hk, nI_1]), rfl, rfl⟩) dX4_make_59

set_option maxRecDepth 100000 in
set_option maxHeartbeats 4000000 in
theorem c_X4_leaf (l : Launch) (D : va_G) (dA : Nat → ClassId) (base n : Nat) (ad : Fa) (I : Fi) (J : Fj) (R : Fr) (hT : ST n R) (hM : MG n I) (hn : n < 40) (v : Int64) : CT l D dA base yX4_leaf cX4_leaf 3 (some .int) 1 0 0 [.ref (ad 11 0), .long v] ad (Nn n) I J R (po (some (.int (nI n))) ad (Nn n) (mkI (up3 (up3 I 11 0 0 0) 26 0 n 1) n (-1)) (up3 J 34 0 n v) R) := by
  refine CT.of 0 (L0 := [some (.ref (ad 11 0)), some (.long v), none]) (by decide +kernel) rfl (Nat.le_of_ble_eq_true rfl) ?_
  intro p e s m args below meth c C
  refine x_aload_n C dX4_leaf_0 rfl ?_
  refine x_iconst C 0 (by decide) dX4_leaf_1 ?_
  refine x_putI C g_X4_75 rfl (by first | assumption | exact Nat.one_pos) dX4_leaf_2 ?_
  refine x_aload_n C dX4_leaf_5 rfl ?_
  refine x_getI C f_X4_79 rfl (by first | assumption | exact Nat.one_pos) dX4_leaf_6 ?_
  try simp only [up3_r, Nat.reduceEqDiff, and_false, false_and, and_self, and_true, true_and, reduceIte]
  refine x_bipush C 40 (by decide) dX4_leaf_9 ?_
  refine x_icmp_ne C 16 dX4_leaf_11 (by decide) (fun h11 => ?_) (fun h11 => ?_)
  · skip
    refine x_aload_n C dX4_leaf_16 rfl ?_
    refine x_getF C hT f_X4_43 rfl rfl (by first | assumption | exact Nat.one_pos) dX4_leaf_17 ?_
    refine x_aload_n C dX4_leaf_20 rfl ?_
    refine x_getI C f_X4_79 rfl (by first | assumption | exact Nat.one_pos) dX4_leaf_21 ?_
    try simp only [up3_r, Nat.reduceEqDiff, and_false, false_and, and_self, and_true, true_and, reduceIte]
    refine x_lload_n C dX4_leaf_24 rfl ?_
    refine x_lastN C (n) hM.1 rfl rfl (by first | assumption | exact Nat.one_pos) hn (by decide) dX4_leaf_25 ?_
    refine x_aload_n C dX4_leaf_26 rfl ?_
    refine x_getF C hT f_X4_19 rfl rfl (by first | assumption | exact Nat.one_pos) dX4_leaf_27 ?_
    refine x_aload_n C dX4_leaf_30 rfl ?_
    refine x_getI C f_X4_79 rfl (by first | assumption | exact Nat.one_pos) dX4_leaf_31 ?_
    try simp only [up3_r, Nat.reduceEqDiff, and_false, false_and, and_self, and_true, true_and, reduceIte]
    refine x_iconst C 1 (by decide) dX4_leaf_34 ?_
    refine x_iastN C (n) hM.1 rfl rfl (by first | assumption | exact Nat.one_pos) hn (by decide) dX4_leaf_35 ?_
    refine x_aload_n C dX4_leaf_36 rfl ?_
    refine x_iconst C (-1) (by decide) dX4_leaf_37 ?_
    refine x_cV1 C yo_X4_make m_X4_89 rfl rfl (by first | assumption | exact Nat.one_pos) (c_X4_make l D dA base n ad (up3 (up3 I 11 0 0 0) 26 0 n 1) (up3 J 34 0 n v) R hT n (by simp [up3, hM.1]) hn (-1)) dX4_leaf_38 rfl rfl (Nat.le_of_ble_eq_true rfl) ⟨by decide, by decide⟩ ⟨by decide, by decide⟩ ?_
    exact x_iret C (po_i _ _ _ _ _ _) dX4_leaf_41
  · skip
    rw [hM.1] at h11
    exact absurd ((nI_eq (b := 40) (by omega) (by decide)).mp h11) (by omega)

set_option maxRecDepth 100000 in
set_option maxHeartbeats 4000000 in
theorem c_X4_leaf_full (l : Launch) (D : va_G) (dA : Nat → ClassId) (base n : Nat) (ad : Fa) (I : Fi) (J : Fj) (R : Fr) (hT : ST n R) (hM : I 11 0 2 = nI 40) (v : Int64) : CT l D dA base yX4_leaf cX4_leaf 3 (some .int) 1 0 0 [.ref (ad 11 0), .long v] ad (Nn n) I J R (po (some (.int (-1))) ad (Nn n) (up3 I 11 0 0 0) J R) := by
  refine CT.of 0 (L0 := [some (.ref (ad 11 0)), some (.long v), none]) (by decide +kernel) rfl (Nat.le_of_ble_eq_true rfl) ?_
  intro p e s m args below meth c C
  refine x_aload_n C dX4_leaf_0 rfl ?_
  refine x_iconst C 0 (by decide) dX4_leaf_1 ?_
  refine x_putI C g_X4_75 rfl (by first | assumption | exact Nat.one_pos) dX4_leaf_2 ?_
  refine x_aload_n C dX4_leaf_5 rfl ?_
  refine x_getI C f_X4_79 rfl (by first | assumption | exact Nat.one_pos) dX4_leaf_6 ?_
  try simp only [up3_r, Nat.reduceEqDiff, and_false, false_and, and_self, and_true, true_and, reduceIte]
  refine x_bipush C 40 (by decide) dX4_leaf_9 ?_
  refine x_icmp_ne C 16 dX4_leaf_11 (by decide) (fun h11 => ?_) (fun h11 => ?_)
  · skip
    rw [hM] at h11
    exact absurd rfl h11
  · skip
    refine x_iconst C (-1) (by decide) dX4_leaf_14 ?_
    exact x_iret C (po_i _ _ _ _ _ _) dX4_leaf_15

set_option maxRecDepth 100000 in
set_option maxHeartbeats 4000000 in
theorem c_X4_key (l : Launch) (D : va_G) (dA : Nat → ClassId) (base n : Nat) (ad : Fa) (I : Fi) (J : Fj) (R : Fr) (hT : ST n R) (hM : MG n I) (hn : n < 40) (f : Nat) (hf : f < 6) : CT l D dA base yX4_key cX4_key 2 (some .int) 1 0 0 [.ref (ad 11 0), .int (nI f)] ad (Nn n) I J R (po (some (.int (nI n))) ad (Nn n) (mkI (up3 I 11 0 0 0) n (nI f)) J R) := by
  refine CT.of 0 (L0 := [some (.ref (ad 11 0)), some (.int (nI f))]) (by decide +kernel) rfl (Nat.le_of_ble_eq_true rfl) ?_
  intro p e s m args below meth c C
  refine x_aload_n C dX4_key_0 rfl ?_
  refine x_iconst C 0 (by decide) dX4_key_1 ?_
  refine x_putI C g_X4_75 rfl (by first | assumption | exact Nat.one_pos) dX4_key_2 ?_
  refine x_aload_n C dX4_key_5 rfl ?_
  refine x_getI C f_X4_79 rfl (by first | assumption | exact Nat.one_pos) dX4_key_6 ?_
  try simp only [up3_r, Nat.reduceEqDiff, and_false, false_and, and_self, and_true, true_and, reduceIte]
  refine x_bipush C 40 (by decide) dX4_key_9 ?_
  refine x_icmp_eq C 24 dX4_key_11 (by decide) (fun h11 => ?_) (fun h11 => ?_)
  · skip
    rw [hM.1] at h11
    exact absurd ((nI_eq (b := 40) (by omega) (by decide)).mp h11) (by omega)
  · skip
    refine x_iload_n C dX4_key_14 rfl ?_
    refine x_if_lt C 24 dX4_key_15 (by decide) (fun h15 => ?_) (fun h15 => ?_)
    · skip
      exact absurd h15 (nI_pos (by omega))
    · skip
      refine x_iload_n C dX4_key_18 rfl ?_
      refine x_bipush C 6 (by decide) dX4_key_19 ?_
      refine x_icmp_lt C 28 dX4_key_21 (by decide) (fun h21 => ?_) (fun h21 => ?_)
      · skip
        refine x_aload_n C dX4_key_28 rfl ?_
        refine x_iload_n C dX4_key_29 rfl ?_
        refine x_cV1 C yo_X4_make m_X4_89 rfl rfl (by first | assumption | exact Nat.one_pos) (c_X4_make l D dA base n ad (up3 I 11 0 0 0) J R hT n (by simp [up3, hM.1]) hn (nI f)) dX4_key_30 rfl rfl (Nat.le_of_ble_eq_true rfl) ⟨by decide, by decide⟩ ⟨by decide, by decide⟩ ?_
        exact x_iret C (po_i _ _ _ _ _ _) dX4_key_33
      · skip
        exact absurd (nI_lt (b := 6) hf (by decide)) h21

set_option maxRecDepth 100000 in
set_option maxHeartbeats 4000000 in
theorem c_X4_key_full (l : Launch) (D : va_G) (dA : Nat → ClassId) (base n : Nat) (ad : Fa) (I : Fi) (J : Fj) (R : Fr) (hT : ST n R) (hM : I 11 0 2 = nI 40) (f : Int32) : CT l D dA base yX4_key cX4_key 2 (some .int) 1 0 0 [.ref (ad 11 0), .int f] ad (Nn n) I J R (po (some (.int (-1))) ad (Nn n) (up3 I 11 0 0 0) J R) := by
  refine CT.of 0 (L0 := [some (.ref (ad 11 0)), some (.int f)]) (by decide +kernel) rfl (Nat.le_of_ble_eq_true rfl) ?_
  intro p e s m args below meth c C
  refine x_aload_n C dX4_key_0 rfl ?_
  refine x_iconst C 0 (by decide) dX4_key_1 ?_
  refine x_putI C g_X4_75 rfl (by first | assumption | exact Nat.one_pos) dX4_key_2 ?_
  refine x_aload_n C dX4_key_5 rfl ?_
  refine x_getI C f_X4_79 rfl (by first | assumption | exact Nat.one_pos) dX4_key_6 ?_
  try simp only [up3_r, Nat.reduceEqDiff, and_false, false_and, and_self, and_true, true_and, reduceIte]
  refine x_bipush C 40 (by decide) dX4_key_9 ?_
  refine x_icmp_eq C 24 dX4_key_11 (by decide) (fun h11 => ?_) (fun h11 => ?_)
  · skip
    refine x_iconst C (-1) (by decide) dX4_key_24 ?_
    refine x_goto C 33 dX4_key_25 (by decide) ?_
    exact x_iret C (po_i _ _ _ _ _ _) dX4_key_33
  · skip
    rw [hM] at h11
    exact absurd rfl h11

set_option maxRecDepth 100000 in
set_option maxHeartbeats 4000000 in
theorem c_X4_key_none (l : Launch) (D : va_G) (dA : Nat → ClassId) (base n : Nat) (ad : Fa) (I : Fi) (J : Fj) (R : Fr) (hT : ST n R) (f : Int32) (hf : f < 0 ∨ 6 ≤ f) : CT l D dA base yX4_key cX4_key 2 (some .int) 1 0 0 [.ref (ad 11 0), .int f] ad (Nn n) I J R (po (some (.int (-1))) ad (Nn n) (up3 I 11 0 0 0) J R) := by
  refine CT.of 0 (L0 := [some (.ref (ad 11 0)), some (.int f)]) (by decide +kernel) rfl (Nat.le_of_ble_eq_true rfl) ?_
  intro p e s m args below meth c C
  refine x_aload_n C dX4_key_0 rfl ?_
  refine x_iconst C 0 (by decide) dX4_key_1 ?_
  refine x_putI C g_X4_75 rfl (by first | assumption | exact Nat.one_pos) dX4_key_2 ?_
  refine x_aload_n C dX4_key_5 rfl ?_
  refine x_getI C f_X4_79 rfl (by first | assumption | exact Nat.one_pos) dX4_key_6 ?_
  try simp only [up3_r, Nat.reduceEqDiff, and_false, false_and, and_self, and_true, true_and, reduceIte]
  refine x_bipush C 40 (by decide) dX4_key_9 ?_
  refine x_icmp_eq C 24 dX4_key_11 (by decide) (fun h11 => ?_) (fun h11 => ?_)
  · skip
    refine x_iconst C (-1) (by decide) dX4_key_24 ?_
    refine x_goto C 33 dX4_key_25 (by decide) ?_
    exact x_iret C (po_i _ _ _ _ _ _) dX4_key_33
  · skip
    refine x_iload_n C dX4_key_14 rfl ?_
    refine x_if_lt C 24 dX4_key_15 (by decide) (fun h15 => ?_) (fun h15 => ?_)
    · skip
      refine x_iconst C (-1) (by decide) dX4_key_24 ?_
      refine x_goto C 33 dX4_key_25 (by decide) ?_
      exact x_iret C (po_i _ _ _ _ _ _) dX4_key_33
    · skip
      refine x_iload_n C dX4_key_18 rfl ?_
      refine x_bipush C 6 (by decide) dX4_key_19 ?_
      refine x_icmp_lt C 28 dX4_key_21 (by decide) (fun h21 => ?_) (fun h21 => ?_)
      · skip
        exact absurd h21 (hf.elim (fun q => absurd q h15) (fun q => Int32.not_lt.mpr q))
      · skip
        refine x_iconst C (-1) (by decide) dX4_key_24 ?_
        refine x_goto C 33 dX4_key_25 (by decide) ?_
        exact x_iret C (po_i _ _ _ _ _ _) dX4_key_33

def emS (I : Fi) : Nat → Fi
  | 0 => I
  | t + 1 => up3 (emS I t) 37 0 t 0
theorem emS_o (I : Fi) {c b d : Nat} : ∀ t, ¬ (c = 37 ∧ d < t) → emS I t c b d = I c b d
  | 0, _ => rfl
  | t + 1, h => by
    rw [emS, up3_n _ _ _ _ _ (fun z => h ⟨z.1, by omega⟩), emS_o I t (fun z => h ⟨z.1, by omega⟩)]
/-- how high the piles are -/
def HI (I : Fi) (zs : Nat → Nat) : Prop := ∀ q, q < 5 → I 37 0 q = nI (zs q) ∧ zs q ≤ 40
set_option maxRecDepth 100000 in
set_option maxHeartbeats 4000000 in
theorem c_X4_empty (l : Launch) (D : va_G) (dA : Nat → ClassId) (base n : Nat) (ad : Fa) (I : Fi) (J : Fj) (R : Fr) (hT : ST n R) (zs : Nat → Nat) (hH : HI I zs) : CT l D dA base yX4_empty cX4_empty 3 (some .int) 0 0 0 [.ref (ad 11 0)] ad (Nn n) I J R (po (some (.int (nI (esum zs 5)))) ad (Nn n) (emS I 5) J R) := by
  refine CT.of 2 (L0 := [some (.ref (ad 11 0)), none, none]) (by decide +kernel) rfl (Nat.le_of_ble_eq_true rfl) ?_
  intro p e s m args below meth c C
  have loop : ∀ (f t : Nat), t + f = 5 → GX p l e (rmX 0 0 0) s m args below meth c (MQ below (CQ D dA base (po (some (.int (nI (esum zs 5)))) ad (Nn n) (emS I 5) J R)) args s 0 0 (fun q => base ≤ q)) D dA base 3 ad (Nn n) (emS I t) J R 0 0 4 [some (.ref (ad 11 0)), some (.int (nI (esum zs t))), some (.int (nI t))] [] := by
    intro f
    induction f with
    | zero =>
      intro t ht
      have ht2 : t = 5 := by omega
      subst ht2
      refine x_iload_n C dX4_empty_4 rfl ?_
      refine x_iconst C 5 (by decide) dX4_empty_5 ?_
      refine x_icmp_ge C 31 dX4_empty_6 (by decide) (fun h6 => ?_) (fun h6 => ?_)
      · skip
        refine x_iload_n C dX4_empty_31 rfl ?_
        exact x_iret C (po_i _ _ _ _ _ _) dX4_empty_32
      · skip
        exact absurd (Int32.le_refl _) h6
    | succ f ih =>
      intro t ht
      have ht5 : t < 5 := by omega
      have hh : emS I t 37 0 t = nI (zs t) := by rw [emS_o I t (by omega)]; exact (hH t ht5).1
      refine x_iload_n C dX4_empty_4 rfl ?_
      refine x_iconst C 5 (by decide) dX4_empty_5 ?_
      refine x_icmp_ge C 31 dX4_empty_6 (by decide) (fun h6 => ?_) (fun h6 => ?_)
      · skip
        exact absurd h6 (nI_ge (b := 5) ht5 (by decide))
      · skip
        refine x_iload_n C dX4_empty_9 rfl ?_
        refine x_aload_n C dX4_empty_10 rfl ?_
        refine x_getF C hT f_X4_54 rfl rfl (by first | assumption | exact Nat.one_pos) dX4_empty_11 ?_
        refine x_iload_n C dX4_empty_14 rfl ?_
        refine x_ialdN C (t) rfl rfl rfl (by first | assumption | exact Nat.one_pos) ht5 (by decide) dX4_empty_15 ?_
        refine x_iadd C dX4_empty_16 ?_
        refine x_istore_n C dX4_empty_17 (by decide) rfl rfl ?_
        refine x_aload_n C dX4_empty_18 rfl ?_
        refine x_getF C hT f_X4_54 rfl rfl (by first | assumption | exact Nat.one_pos) dX4_empty_19 ?_
        refine x_iload_n C dX4_empty_22 rfl ?_
        refine x_iconst C 0 (by decide) dX4_empty_23 ?_
        refine x_iastN C (t) rfl rfl rfl (by first | assumption | exact Nat.one_pos) ht5 (by decide) dX4_empty_24 ?_
        refine x_iinc C _ dX4_empty_25 rfl rfl (by decide) rfl rfl ?_
        refine x_goto C 4 dX4_empty_28 (by decide) ?_
        exact x_eqL (ih (t + 1) (by omega)) rfl (by rw [hh, esum, ← nI_add, ← nI_1]; rfl) rfl rfl rfl rfl
  refine x_iconst C 0 (by decide) dX4_empty_0 ?_
  refine x_istore_n C dX4_empty_1 (by decide) rfl rfl ?_
  refine x_iconst C 0 (by decide) dX4_empty_2 ?_
  refine x_istore_n C dX4_empty_3 (by decide) rfl rfl ?_
  exact loop 5 0 (by omega)

def nxI (I : Fi) : Fi := up3 (emS I 5) 11 0 1 (I 11 0 1 + 1)
set_option maxRecDepth 100000 in
set_option maxHeartbeats 4000000 in
theorem c_X4_next (l : Launch) (D : va_G) (dA : Nat → ClassId) (base n : Nat) (ad : Fa) (I : Fi) (J : Fj) (R : Fr) (hT : ST n R) (zs : Nat → Nat) (hH : HI I zs) : CT l D dA base yX4_next cX4_next 1 (some .int) 1 0 0 [.ref (ad 11 0)] ad (Nn n) I J R (po (some (.int (I 11 0 1 + 1))) ad (Nn n) (nxI I) J R) := by
  refine CT.of 0 (L0 := [some (.ref (ad 11 0))]) (by decide +kernel) rfl (Nat.le_of_ble_eq_true rfl) ?_
  intro p e s m args below meth c C
  refine x_aload_n C dX4_next_0 rfl ?_
  refine x_cV1 C yo_X4_empty m_X4_93 rfl rfl (by first | assumption | exact Nat.one_pos) (c_X4_empty l D dA base n ad I J R hT zs hH) dX4_next_1 rfl rfl (Nat.le_of_ble_eq_true rfl) ⟨by decide, by decide⟩ ⟨by decide, by decide⟩ ?_
  refine x_pop C rfl dX4_next_4 ?_
  refine x_aload_n C dX4_next_5 rfl ?_
  refine x_dup C rfl dX4_next_6 ?_
  refine x_getI C f_X4_86 rfl (by first | assumption | exact Nat.one_pos) dX4_next_7 ?_
  refine x_iconst C 1 (by decide) dX4_next_10 ?_
  refine x_iadd C dX4_next_11 ?_
  refine x_putI C g_X4_86 rfl (by first | assumption | exact Nat.one_pos) dX4_next_12 ?_
  refine x_aload_n C dX4_next_15 rfl ?_
  refine x_getI C f_X4_86 rfl (by first | assumption | exact Nat.one_pos) dX4_next_16 ?_
  exact x_iret C (⟨by rw [up3_s, emS_o I 5 (by decide)], rfl, rfl, by rw [nxI, emS_o I 5 (by decide)], rfl, rfl⟩) dX4_next_19

set_option maxRecDepth 100000 in
set_option maxHeartbeats 4000000 in
theorem c_X4_rowKey (l : Launch) (D : va_G) (dA : Nat → ClassId) (base n : Nat) (ad : Fa) (I : Fi) (J : Fj) (R : Fr) (hT : ST n R) (k pl : Nat) (hk : k < 40) (hp : pl < 8) : CT l D dA base yX4_rowKey cX4_rowKey 3 (some .int) 0 0 0 [.ref (ad 11 0), .int (nI k), .int (nI pl)] ad (Nn n) I J R (po (some (.int (I 25 0 (8 * k + pl)))) ad (Nn n) I J R) := by
  refine CT.of 0 (L0 := [some (.ref (ad 11 0)), some (.int (nI k)), some (.int (nI pl))]) (by decide +kernel) rfl (Nat.le_of_ble_eq_true rfl) ?_
  intro p e s m args below meth c C
  refine x_aload_n C dX4_rowKey_0 rfl ?_
  refine x_getF C hT f_X4_16 rfl rfl (by first | assumption | exact Nat.one_pos) dX4_rowKey_1 ?_
  refine x_bipush C 8 (by decide) dX4_rowKey_4 ?_
  refine x_iload_n C dX4_rowKey_6 rfl ?_
  refine x_imul C dX4_rowKey_7 ?_
  refine x_iload_n C dX4_rowKey_8 rfl ?_
  refine x_iadd C dX4_rowKey_9 ?_
  refine x_ialdN C (8 * k + pl) (ix8 k pl) rfl rfl (by first | assumption | exact Nat.one_pos) (by omega) (by decide) dX4_rowKey_10 ?_
  exact x_iret C (po_i _ _ _ _ _ _) dX4_rowKey_11

def msure (I : Fi) (i : Nat) : Bool := decide (I 23 0 i = -1 ∨ (¬ I 36 0 i = 0 ∧ I 27 0 i = I 11 0 1))
set_option maxRecDepth 100000 in
set_option maxHeartbeats 4000000 in
theorem c_X4_isSure (l : Launch) (D : va_G) (dA : Nat → ClassId) (base n : Nat) (ad : Fa) (I : Fi) (J : Fj) (R : Fr) (hT : ST n R) (k : Nat) (hk : k < 40) : CT l D dA base yX4_isSure cX4_isSure 2 (some .boolean) 0 0 0 [.ref (ad 11 0), .int (nI k)] ad (Nn n) I J R (po (some (.int (if msure I k = true then 1 else 0))) ad (Nn n) I J R) := by
  refine CT.of 0 (L0 := [some (.ref (ad 11 0)), some (.int (nI k))]) (by decide +kernel) rfl (Nat.le_of_ble_eq_true rfl) ?_
  intro p e s m args below meth c C
  refine x_aload_n C dX4_isSure_0 rfl ?_
  refine x_getF C hT f_X4_7 rfl rfl (by first | assumption | exact Nat.one_pos) dX4_isSure_1 ?_
  refine x_iload_n C dX4_isSure_4 rfl ?_
  refine x_ialdN C (k) rfl rfl rfl (by first | assumption | exact Nat.one_pos) hk (by decide) dX4_isSure_5 ?_
  refine x_iconst C (-1) (by decide) dX4_isSure_6 ?_
  refine x_icmp_eq C 32 dX4_isSure_7 (by decide) (fun h7 => ?_) (fun h7 => ?_)
  · skip
    refine x_iconst C 1 (by decide) dX4_isSure_32 ?_
    refine x_goto C 37 dX4_isSure_33 (by decide) ?_
    exact x_zret C (by first | exact Or.inl rfl | exact Or.inr rfl | assumption) (po_r (by simp only [msure, decide_eq_true_eq]; simp_all)) dX4_isSure_37
  · skip
    refine x_aload_n C dX4_isSure_10 rfl ?_
    refine x_getF C hT f_X4_51 rfl rfl (by first | assumption | exact Nat.one_pos) dX4_isSure_11 ?_
    refine x_iload_n C dX4_isSure_14 rfl ?_
    refine x_zaldN C (k) rfl rfl rfl (by first | assumption | exact Nat.one_pos) hk (by decide) dX4_isSure_15 ?_
    refine x_if_eq C 36 dX4_isSure_16 (by decide) (fun h16 => ?_) (fun h16 => ?_)
    · skip
      refine x_iconst C 0 (by decide) dX4_isSure_36 ?_
      exact x_zret C (by first | exact Or.inl rfl | exact Or.inr rfl | assumption) (po_r (by simp only [msure, decide_eq_true_eq]; simp_all)) dX4_isSure_37
    · skip
      refine x_aload_n C dX4_isSure_19 rfl ?_
      refine x_getF C hT f_X4_22 rfl rfl (by first | assumption | exact Nat.one_pos) dX4_isSure_20 ?_
      refine x_iload_n C dX4_isSure_23 rfl ?_
      refine x_ialdN C (k) rfl rfl rfl (by first | assumption | exact Nat.one_pos) hk (by decide) dX4_isSure_24 ?_
      refine x_aload_n C dX4_isSure_25 rfl ?_
      refine x_getI C f_X4_86 rfl (by first | assumption | exact Nat.one_pos) dX4_isSure_26 ?_
      refine x_icmp_ne C 36 dX4_isSure_29 (by decide) (fun h29 => ?_) (fun h29 => ?_)
      · skip
        refine x_iconst C 0 (by decide) dX4_isSure_36 ?_
        exact x_zret C (by first | exact Or.inl rfl | exact Or.inr rfl | assumption) (po_r (by simp only [msure, decide_eq_true_eq]; simp_all)) dX4_isSure_37
      · skip
        refine x_iconst C 1 (by decide) dX4_isSure_32 ?_
        refine x_goto C 37 dX4_isSure_33 (by decide) ?_
        exact x_zret C (by first | exact Or.inl rfl | exact Or.inr rfl | assumption) (po_r (by simp only [msure, decide_eq_true_eq]; simp_all)) dX4_isSure_37

set_option maxRecDepth 100000 in
set_option maxHeartbeats 4000000 in
theorem c_X4_isWorker (l : Launch) (D : va_G) (dA : Nat → ClassId) (base n : Nat) (ad : Fa) (I : Fi) (J : Fj) (R : Fr) (x : Int32) : CT l D dA base yX4_isWorker cX4_isWorker 1 (some .boolean) 0 0 0 [.int x] ad (Nn n) I J R (po (some (.int (if 0 ≤ x ∧ x < 4 then 1 else 0))) ad (Nn n) I J R) := by
  refine CT.of 0 (L0 := [some (.int x)]) (by decide +kernel) rfl (Nat.le_of_ble_eq_true rfl) ?_
  intro p e s m args below meth c C
  refine x_iload_n C dX4_isWorker_0 rfl ?_
  refine x_if_lt C 13 dX4_isWorker_1 (by decide) (fun h1 => ?_) (fun h1 => ?_)
  · skip
    refine x_iconst C 0 (by decide) dX4_isWorker_13 ?_
    exact x_zret C (by first | exact Or.inl rfl | exact Or.inr rfl | assumption) (po_r (by rw [if_neg (fun z => absurd h1 (Int32.not_lt.mpr z.1))])) dX4_isWorker_14
  · skip
    refine x_iload_n C dX4_isWorker_4 rfl ?_
    refine x_iconst C 4 (by decide) dX4_isWorker_5 ?_
    refine x_icmp_ge C 13 dX4_isWorker_6 (by decide) (fun h6 => ?_) (fun h6 => ?_)
    · skip
      refine x_iconst C 0 (by decide) dX4_isWorker_13 ?_
      exact x_zret C (by first | exact Or.inl rfl | exact Or.inr rfl | assumption) (po_r (by rw [if_neg (fun z => absurd z.2 (Int32.not_lt.mpr h6))])) dX4_isWorker_14
    · skip
      refine x_iconst C 1 (by decide) dX4_isWorker_9 ?_
      refine x_goto C 14 dX4_isWorker_10 (by decide) ?_
      exact x_zret C (by first | exact Or.inl rfl | exact Or.inr rfl | assumption) (po_r (by rw [if_pos ⟨Int32.not_lt.mp h1, Int32.not_le.mp h6⟩])) dX4_isWorker_14

def pofJ (I : Fi) (x : Int32) (p0 : Nat) (g : Int32) : Nat → Int32
  | 0 => g
  | t + 1 => if I 38 0 (40 * p0 + t) = x then nI p0 else pofJ I x p0 g t
def pofP (I : Fi) (x : Int32) (zs : Nat → Nat) : Nat → Int32
  | 0 => -1
  | t + 1 => pofJ I x t (pofP I x zs t) (zs t)
set_option maxRecDepth 100000 in
set_option maxHeartbeats 4000000 in
theorem c_X4_pileOf (l : Launch) (D : va_G) (dA : Nat → ClassId) (base n : Nat) (ad : Fa) (I : Fi) (J : Fj) (R : Fr) (hT : ST n R) (x : Int32) (zs : Nat → Nat) (hH : HI I zs) : CT l D dA base yX4_pileOf cX4_pileOf 5 (some .int) 0 0 0 [.ref (ad 11 0), .int x] ad (Nn n) I J R (po (some (.int (pofP I x zs 5))) ad (Nn n) I J R) := by
  refine CT.of 3 (L0 := [some (.ref (ad 11 0)), some (.int x), none, none, none]) (by decide +kernel) rfl (Nat.le_of_ble_eq_true rfl) ?_
  intro p e s m args below meth c C
  have inner : ∀ (t : Nat), t < 5 → GX p l e (rmX 0 0 0) s m args below meth c (MQ below (CQ D dA base (po (some (.int (pofP I x zs 5))) ad (Nn n) I J R)) args s 0 0 (fun q => base ≤ q)) D dA base 5 ad (Nn n) I J R 0 0 51 [some (.ref (ad 11 0)), some (.int x), some (.int (pofP I x zs (t + 1))), some (.int (nI t)), none] [] → ∀ (f u : Nat), u + f = zs t → GX p l e (rmX 0 0 0) s m args below meth c (MQ below (CQ D dA base (po (some (.int (pofP I x zs 5))) ad (Nn n) I J R)) args s 0 0 (fun q => base ≤ q)) D dA base 5 ad (Nn n) I J R 0 0 12 [some (.ref (ad 11 0)), some (.int x), some (.int (pofJ I x t (pofP I x zs t) u)), some (.int (nI t)), some (.int (nI u))] [] := by
    intro t ht kk f
    obtain ⟨hz1, hz2⟩ := hH t ht
    induction f with
    | zero =>
      intro u hu
      have hu2 : u = zs t := by omega
      refine x_iload C dX4_pileOf_12 rfl ?_
      refine x_aload_n C dX4_pileOf_14 rfl ?_
      refine x_getF C hT f_X4_54 rfl rfl (by first | assumption | exact Nat.one_pos) dX4_pileOf_15 ?_
      refine x_iload_n C dX4_pileOf_18 rfl ?_
      refine x_ialdN C (t) rfl rfl rfl (by first | assumption | exact Nat.one_pos) ht (by decide) dX4_pileOf_19 ?_
      refine x_icmp_ge C 51 dX4_pileOf_20 (by decide) (fun h20 => ?_) (fun h20 => ?_)
      · skip
        exact x_drop 4 rfl (x_eqL kk rfl (by rw [hu2]; rfl) rfl rfl rfl rfl)
      · skip
        rw [hz1, hu2] at h20
        exact absurd (Int32.le_refl _) h20
    | succ f ih =>
      intro u hu
      refine x_iload C dX4_pileOf_12 rfl ?_
      refine x_aload_n C dX4_pileOf_14 rfl ?_
      refine x_getF C hT f_X4_54 rfl rfl (by first | assumption | exact Nat.one_pos) dX4_pileOf_15 ?_
      refine x_iload_n C dX4_pileOf_18 rfl ?_
      refine x_ialdN C (t) rfl rfl rfl (by first | assumption | exact Nat.one_pos) ht (by decide) dX4_pileOf_19 ?_
      refine x_icmp_ge C 51 dX4_pileOf_20 (by decide) (fun h20 => ?_) (fun h20 => ?_)
      · skip
        rw [hz1] at h20
        exact absurd h20 (nI_ge (show u < zs t by omega) (by omega))
      · skip
        refine x_aload_n C dX4_pileOf_23 rfl ?_
        refine x_getF C hT f_X4_57 rfl rfl (by first | assumption | exact Nat.one_pos) dX4_pileOf_24 ?_
        refine x_bipush C 40 (by decide) dX4_pileOf_27 ?_
        refine x_iload_n C dX4_pileOf_29 rfl ?_
        refine x_imul C dX4_pileOf_30 ?_
        refine x_iload C dX4_pileOf_31 rfl ?_
        refine x_iadd C dX4_pileOf_33 ?_
        refine x_ialdN C (40 * t + u) (ix40 t u) rfl rfl (by first | assumption | exact Nat.one_pos) (by omega) (by decide) dX4_pileOf_34 ?_
        refine x_iload_n C dX4_pileOf_35 rfl ?_
        refine x_icmp_ne C 43 dX4_pileOf_36 (by decide) (fun h36 => ?_) (fun h36 => ?_)
        · skip
          refine x_iload_n C dX4_pileOf_43 rfl ?_
          refine x_istore_n C dX4_pileOf_44 (by decide) rfl rfl ?_
          refine x_iinc C _ dX4_pileOf_45 rfl rfl (by decide) rfl rfl ?_
          refine x_goto C 12 dX4_pileOf_48 (by decide) ?_
          exact x_eqL (ih (u + 1) (by omega)) rfl (by rw [← nI_1, pofJ, if_neg h36]; rfl) rfl rfl rfl rfl
        · skip
          refine x_iload_n C dX4_pileOf_39 rfl ?_
          refine x_goto C 44 dX4_pileOf_40 (by decide) ?_
          refine x_istore_n C dX4_pileOf_44 (by decide) rfl rfl ?_
          refine x_iinc C _ dX4_pileOf_45 rfl rfl (by decide) rfl rfl ?_
          refine x_goto C 12 dX4_pileOf_48 (by decide) ?_
          exact x_eqL (ih (u + 1) (by omega)) rfl (by rw [← nI_1, pofJ, if_pos h36]; rfl) rfl rfl rfl rfl
  have outer : ∀ (f t : Nat), t + f = 5 → GX p l e (rmX 0 0 0) s m args below meth c (MQ below (CQ D dA base (po (some (.int (pofP I x zs 5))) ad (Nn n) I J R)) args s 0 0 (fun q => base ≤ q)) D dA base 5 ad (Nn n) I J R 0 0 4 [some (.ref (ad 11 0)), some (.int x), some (.int (pofP I x zs t)), some (.int (nI t)), none] [] := by
    intro f
    induction f with
    | zero =>
      intro t ht
      have ht2 : t = 5 := by omega
      subst ht2
      refine x_iload_n C dX4_pileOf_4 rfl ?_
      refine x_iconst C 5 (by decide) dX4_pileOf_5 ?_
      refine x_icmp_ge C 57 dX4_pileOf_6 (by decide) (fun h6 => ?_) (fun h6 => ?_)
      · skip
        refine x_iload_n C dX4_pileOf_57 rfl ?_
        exact x_iret C (po_i _ _ _ _ _ _) dX4_pileOf_58
      · skip
        exact absurd (Int32.le_refl _) h6
    | succ f ih =>
      intro t ht
      have ht5 : t < 5 := by omega
      refine x_iload_n C dX4_pileOf_4 rfl ?_
      refine x_iconst C 5 (by decide) dX4_pileOf_5 ?_
      refine x_icmp_ge C 57 dX4_pileOf_6 (by decide) (fun h6 => ?_) (fun h6 => ?_)
      · skip
        exact absurd h6 (nI_ge (b := 5) ht5 (by decide))
      · skip
        refine x_iconst C 0 (by decide) dX4_pileOf_9 ?_
        refine x_istore C dX4_pileOf_10 (by decide) rfl rfl ?_
        refine inner t ht5 ?_ (zs t) 0 (by omega)
        refine x_iinc C _ dX4_pileOf_51 rfl rfl (by decide) rfl rfl ?_
        refine x_goto C 4 dX4_pileOf_54 (by decide) ?_
        exact x_eqL (ih (t + 1) (by omega)) rfl (by rw [← nI_1]; rfl) rfl rfl rfl rfl
  refine x_iconst C (-1) (by decide) dX4_pileOf_0 ?_
  refine x_istore_n C dX4_pileOf_1 (by decide) rfl rfl ?_
  refine x_iconst C 0 (by decide) dX4_pileOf_2 ?_
  refine x_istore_n C dX4_pileOf_3 (by decide) rfl rfl ?_
  exact outer 5 0 (by omega)

def lyI (I : Fi) (p0 k z : Nat) : Fi := up3 (up3 (up3 (up3 I 38 0 (40 * p0 + z) (nI k)) 41 0 (40 * p0 + z) (if I 36 0 k = 0 ∨ I 27 0 k < I 29 0 k then 1 else 0)) 39 0 (40 * p0 + z) 0) 37 0 p0 (nI (z + 1))
set_option maxRecDepth 100000 in
set_option maxHeartbeats 4000000 in
theorem c_X4_lay (l : Launch) (D : va_G) (dA : Nat → ClassId) (base n : Nat) (ad : Fa) (I : Fi) (J : Fj) (R : Fr) (hT : ST n R) (p0 k z : Nat) (hp : p0 < 5) (hk : k < 40) (hs : I 37 0 p0 = nI z) (hz : z < 40) : CT l D dA base yX4_lay cX4_lay 4 none 0 0 0 [.ref (ad 11 0), .int (nI p0), .int (nI k)] ad (Nn n) I J R (po none ad (Nn n) (lyI I p0 k z) J R) := by
  refine CT.of 1 (L0 := [some (.ref (ad 11 0)), some (.int (nI p0)), some (.int (nI k)), none]) (by decide +kernel) rfl (Nat.le_of_ble_eq_true rfl) ?_
  intro p e s m args below meth c C
  refine x_bipush C 40 (by decide) dX4_lay_0 ?_
  refine x_iload_n C dX4_lay_2 rfl ?_
  refine x_imul C dX4_lay_3 ?_
  refine x_aload_n C dX4_lay_4 rfl ?_
  refine x_getF C hT f_X4_54 rfl rfl (by first | assumption | exact Nat.one_pos) dX4_lay_5 ?_
  refine x_iload_n C dX4_lay_8 rfl ?_
  refine x_ialdN C (p0) rfl rfl rfl (by first | assumption | exact Nat.one_pos) hp (by decide) dX4_lay_9 ?_
  try simp only [up3_r, Nat.reduceEqDiff, and_false, false_and, and_self, and_true, true_and, reduceIte]
  refine x_iadd C dX4_lay_10 ?_
  refine x_istore_n C dX4_lay_11 (by decide) rfl rfl ?_
  refine x_aload_n C dX4_lay_12 rfl ?_
  refine x_getF C hT f_X4_57 rfl rfl (by first | assumption | exact Nat.one_pos) dX4_lay_13 ?_
  refine x_iload_n C dX4_lay_16 rfl ?_
  refine x_iload_n C dX4_lay_17 rfl ?_
  refine x_iastN C (40 * p0 + z) (by rw [hs]; exact ix40 p0 z) rfl rfl (by first | assumption | exact Nat.one_pos) (by omega) (by decide) dX4_lay_18 ?_
  refine x_aload_n C dX4_lay_19 rfl ?_
  refine x_getF C hT f_X4_66 rfl rfl (by first | assumption | exact Nat.one_pos) dX4_lay_20 ?_
  refine x_iload_n C dX4_lay_23 rfl ?_
  refine x_aload_n C dX4_lay_24 rfl ?_
  refine x_getF C hT f_X4_51 rfl rfl (by first | assumption | exact Nat.one_pos) dX4_lay_25 ?_
  refine x_iload_n C dX4_lay_28 rfl ?_
  refine x_zaldN C (k) rfl rfl rfl (by first | assumption | exact Nat.one_pos) hk (by decide) dX4_lay_29 ?_
  try simp only [up3_r, Nat.reduceEqDiff, and_false, false_and, and_self, and_true, true_and, reduceIte]
  refine x_if_eq C 48 dX4_lay_30 (by decide) (fun h30 => ?_) (fun h30 => ?_)
  · skip
    refine x_iconst C 1 (by decide) dX4_lay_48 ?_
    refine x_goto C 53 dX4_lay_49 (by decide) ?_
    refine x_zastN C (40 * p0 + z) (by rw [hs]; exact ix40 p0 z) rfl rfl (by first | assumption | exact Nat.one_pos) (by omega) (by decide) (by first | exact Or.inl rfl | exact Or.inr rfl | assumption) dX4_lay_53 ?_
    refine x_aload_n C dX4_lay_54 rfl ?_
    refine x_getF C hT f_X4_60 rfl rfl (by first | assumption | exact Nat.one_pos) dX4_lay_55 ?_
    refine x_iload_n C dX4_lay_58 rfl ?_
    refine x_iconst C 0 (by decide) dX4_lay_59 ?_
    refine x_iastN C (40 * p0 + z) (by rw [hs]; exact ix40 p0 z) rfl rfl (by first | assumption | exact Nat.one_pos) (by omega) (by decide) dX4_lay_60 ?_
    refine x_aload_n C dX4_lay_61 rfl ?_
    refine x_getF C hT f_X4_54 rfl rfl (by first | assumption | exact Nat.one_pos) dX4_lay_62 ?_
    refine x_iload_n C dX4_lay_65 rfl ?_
    refine x_dup2 C rfl rfl dX4_lay_66 ?_
    refine x_ialdN C (p0) rfl rfl rfl (by first | assumption | exact Nat.one_pos) hp (by decide) dX4_lay_67 ?_
    try simp only [up3_r, Nat.reduceEqDiff, and_false, false_and, and_self, and_true, true_and, reduceIte]
    refine x_iconst C 1 (by decide) dX4_lay_68 ?_
    refine x_iadd C dX4_lay_69 ?_
    refine x_iastN C (p0) rfl rfl rfl (by first | assumption | exact Nat.one_pos) hp (by decide) dX4_lay_70 ?_
    exact x_vret C (⟨rfl, rfl, rfl, by (unfold lyI; rw [hs, nI_1, if_pos (Or.inl h30)]), rfl, rfl⟩) dX4_lay_71
  · skip
    refine x_aload_n C dX4_lay_33 rfl ?_
    refine x_getF C hT f_X4_28 rfl rfl (by first | assumption | exact Nat.one_pos) dX4_lay_34 ?_
    refine x_iload_n C dX4_lay_37 rfl ?_
    refine x_ialdN C (k) rfl rfl rfl (by first | assumption | exact Nat.one_pos) hk (by decide) dX4_lay_38 ?_
    try simp only [up3_r, Nat.reduceEqDiff, and_false, false_and, and_self, and_true, true_and, reduceIte]
    refine x_aload_n C dX4_lay_39 rfl ?_
    refine x_getF C hT f_X4_22 rfl rfl (by first | assumption | exact Nat.one_pos) dX4_lay_40 ?_
    refine x_iload_n C dX4_lay_43 rfl ?_
    refine x_ialdN C (k) rfl rfl rfl (by first | assumption | exact Nat.one_pos) hk (by decide) dX4_lay_44 ?_
    try simp only [up3_r, Nat.reduceEqDiff, and_false, false_and, and_self, and_true, true_and, reduceIte]
    refine x_icmp_le C 52 dX4_lay_45 (by decide) (fun h45 => ?_) (fun h45 => ?_)
    · skip
      refine x_iconst C 0 (by decide) dX4_lay_52 ?_
      refine x_zastN C (40 * p0 + z) (by rw [hs]; exact ix40 p0 z) rfl rfl (by first | assumption | exact Nat.one_pos) (by omega) (by decide) (by first | exact Or.inl rfl | exact Or.inr rfl | assumption) dX4_lay_53 ?_
      refine x_aload_n C dX4_lay_54 rfl ?_
      refine x_getF C hT f_X4_60 rfl rfl (by first | assumption | exact Nat.one_pos) dX4_lay_55 ?_
      refine x_iload_n C dX4_lay_58 rfl ?_
      refine x_iconst C 0 (by decide) dX4_lay_59 ?_
      refine x_iastN C (40 * p0 + z) (by rw [hs]; exact ix40 p0 z) rfl rfl (by first | assumption | exact Nat.one_pos) (by omega) (by decide) dX4_lay_60 ?_
      refine x_aload_n C dX4_lay_61 rfl ?_
      refine x_getF C hT f_X4_54 rfl rfl (by first | assumption | exact Nat.one_pos) dX4_lay_62 ?_
      refine x_iload_n C dX4_lay_65 rfl ?_
      refine x_dup2 C rfl rfl dX4_lay_66 ?_
      refine x_ialdN C (p0) rfl rfl rfl (by first | assumption | exact Nat.one_pos) hp (by decide) dX4_lay_67 ?_
      try simp only [up3_r, Nat.reduceEqDiff, and_false, false_and, and_self, and_true, true_and, reduceIte]
      refine x_iconst C 1 (by decide) dX4_lay_68 ?_
      refine x_iadd C dX4_lay_69 ?_
      refine x_iastN C (p0) rfl rfl rfl (by first | assumption | exact Nat.one_pos) hp (by decide) dX4_lay_70 ?_
      exact x_vret C (⟨rfl, rfl, rfl, by (unfold lyI; rw [hs, nI_1, if_neg (fun q => q.elim h30 (fun q => Int32.not_lt.mpr h45 q))]), rfl, rfl⟩) dX4_lay_71
    · skip
      refine x_iconst C 1 (by decide) dX4_lay_48 ?_
      refine x_goto C 53 dX4_lay_49 (by decide) ?_
      refine x_zastN C (40 * p0 + z) (by rw [hs]; exact ix40 p0 z) rfl rfl (by first | assumption | exact Nat.one_pos) (by omega) (by decide) (by first | exact Or.inl rfl | exact Or.inr rfl | assumption) dX4_lay_53 ?_
      refine x_aload_n C dX4_lay_54 rfl ?_
      refine x_getF C hT f_X4_60 rfl rfl (by first | assumption | exact Nat.one_pos) dX4_lay_55 ?_
      refine x_iload_n C dX4_lay_58 rfl ?_
      refine x_iconst C 0 (by decide) dX4_lay_59 ?_
      refine x_iastN C (40 * p0 + z) (by rw [hs]; exact ix40 p0 z) rfl rfl (by first | assumption | exact Nat.one_pos) (by omega) (by decide) dX4_lay_60 ?_
      refine x_aload_n C dX4_lay_61 rfl ?_
      refine x_getF C hT f_X4_54 rfl rfl (by first | assumption | exact Nat.one_pos) dX4_lay_62 ?_
      refine x_iload_n C dX4_lay_65 rfl ?_
      refine x_dup2 C rfl rfl dX4_lay_66 ?_
      refine x_ialdN C (p0) rfl rfl rfl (by first | assumption | exact Nat.one_pos) hp (by decide) dX4_lay_67 ?_
      try simp only [up3_r, Nat.reduceEqDiff, and_false, false_and, and_self, and_true, true_and, reduceIte]
      refine x_iconst C 1 (by decide) dX4_lay_68 ?_
      refine x_iadd C dX4_lay_69 ?_
      refine x_iastN C (p0) rfl rfl rfl (by first | assumption | exact Nat.one_pos) hp (by decide) dX4_lay_70 ?_
      exact x_vret C (⟨rfl, rfl, rfl, by (unfold lyI; rw [hs, nI_1, if_pos (Or.inr (Int32.not_le.mp h45))]), rfl, rfl⟩) dX4_lay_71

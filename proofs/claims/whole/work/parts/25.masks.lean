/-! the reference: asks -/
set_option maxRecDepth 100000 in
set_option maxHeartbeats 4000000 in
theorem c_X4_firstBack (l : Launch) (D : va_G) (dA : Nat → ClassId) (base n : Nat) (ad : Fa) (I : Fi) (J : Fj) (R : Fr) (hT : ST n R) (hn40 : n ≤ 40) (a m0 : Nat) (ha : a < n) (rs : Nat → Nat) (rw : Nat → Nat → Nat) (hW : MRW n I rs rw) (hm : m0 < rs a) (h1 : ¬ I 44 0 (rw a m0) = 0) (h0 : ∀ i, i < m0 → I 44 0 (rw a i) = 0) : CT l D dA base yX4_firstBack cX4_firstBack 3 (some .int) 1 0 0 [.ref (ad 11 0), .int (nI a)] ad (Nn n) I J R (po (some (.int (nI (rw a m0)))) ad (Nn n) I J R) := by
  refine CT.of 1 (L0 := [some (.ref (ad 11 0)), some (.int (nI a)), none]) (by decide +kernel) rfl (Nat.le_of_ble_eq_true rfl) ?_
  intro p e s m args below meth c C
  obtain ⟨hw1, hw2, hw3⟩ := hW a ha
  have loop : ∀ (g t : Nat), t + g = m0 → GX p l e (rmX 1 0 0) s m args below meth c (MQ below (CQ D dA base (po (some (.int (nI (rw a m0)))) ad (Nn n) I J R)) args s 0 0 (fun q => base ≤ q)) D dA base 3 ad (Nn n) I J R 0 0 2 [some (.ref (ad 11 0)), some (.int (nI a)), some (.int (nI t))] [] := by
    intro g
    induction g with
    | zero =>
      intro t ht
      have ht2 : t = m0 := by omega
      subst ht2
      obtain ⟨hr1, hr2⟩ := hw3 t hm
      refine x_aload_n C dX4_firstBack_2 rfl ?_
      refine x_getF C hT f_X4_72 rfl rfl (by first | assumption | exact Nat.one_pos) dX4_firstBack_3 ?_
      refine x_aload_n C dX4_firstBack_6 rfl ?_
      refine x_iload_n C dX4_firstBack_7 rfl ?_
      refine x_iload_n C dX4_firstBack_8 rfl ?_
      refine x_cV1 C yo_X4_rowKey m_X4_97 rfl rfl (by first | assumption | exact Nat.one_pos) (c_X4_rowKey l D dA base n ad I J R hT a t (by omega) (by omega)) dX4_firstBack_9 rfl rfl (Nat.le_of_ble_eq_true rfl) ⟨by decide, by decide⟩ ⟨by decide, by decide⟩ ?_
      rw [hr1]
      refine x_zaldN C (rw a t) rfl rfl rfl (by first | assumption | exact Nat.one_pos) (by omega) (by decide) dX4_firstBack_12 ?_
      refine x_if_ne C 22 dX4_firstBack_13 (by decide) (fun h13 => ?_) (fun h13 => ?_)
      · skip
        refine x_aload_n C dX4_firstBack_22 rfl ?_
        refine x_iload_n C dX4_firstBack_23 rfl ?_
        refine x_iload_n C dX4_firstBack_24 rfl ?_
        refine x_cV1 C yo_X4_rowKey m_X4_97 rfl rfl (by first | assumption | exact Nat.one_pos) (c_X4_rowKey l D dA base n ad I J R hT a t (by omega) (by omega)) dX4_firstBack_25 rfl rfl (Nat.le_of_ble_eq_true rfl) ⟨by decide, by decide⟩ ⟨by decide, by decide⟩ ?_
        rw [hr1]
        exact x_iret C (po_i _ _ _ _ _ _) dX4_firstBack_28
      · skip
        exact absurd h13 h1
    | succ g ih =>
      intro t ht
      obtain ⟨hr1, hr2⟩ := hw3 t (by omega)
      refine x_aload_n C dX4_firstBack_2 rfl ?_
      refine x_getF C hT f_X4_72 rfl rfl (by first | assumption | exact Nat.one_pos) dX4_firstBack_3 ?_
      refine x_aload_n C dX4_firstBack_6 rfl ?_
      refine x_iload_n C dX4_firstBack_7 rfl ?_
      refine x_iload_n C dX4_firstBack_8 rfl ?_
      refine x_cV1 C yo_X4_rowKey m_X4_97 rfl rfl (by first | assumption | exact Nat.one_pos) (c_X4_rowKey l D dA base n ad I J R hT a t (by omega) (by omega)) dX4_firstBack_9 rfl rfl (Nat.le_of_ble_eq_true rfl) ⟨by decide, by decide⟩ ⟨by decide, by decide⟩ ?_
      rw [hr1]
      refine x_zaldN C (rw a t) rfl rfl rfl (by first | assumption | exact Nat.one_pos) (by omega) (by decide) dX4_firstBack_12 ?_
      refine x_if_ne C 22 dX4_firstBack_13 (by decide) (fun h13 => ?_) (fun h13 => ?_)
      · skip
        exact absurd (h0 t (by omega)) h13
      · skip
        refine x_iinc C _ dX4_firstBack_16 rfl rfl (by decide) rfl rfl ?_
        refine x_goto C 2 dX4_firstBack_19 (by decide) ?_
        exact x_eqL (ih (t + 1) (by omega)) rfl (by rw [← nI_1]; rfl) rfl rfl rfl rfl
  refine x_iconst C 0 (by decide) dX4_firstBack_0 ?_
  refine x_istore_n C dX4_firstBack_1 (by decide) rfl rfl ?_
  exact loop m0 0 (by omega)

set_option maxRecDepth 100000 in
set_option maxHeartbeats 4000000 in
theorem c_X4_asks_o1 (l : Launch) (D : va_G) (dA : Nat → ClassId) (base n : Nat) (ad : Fa) (I : Fi) (J : Fj) (R : Fr) (hT : ST n R) (hM : MG n I) (x : Int32) (hx : x < 0 ∨ nI n ≤ x) (y : Int32) : CT l D dA base yX4_asks cX4_asks 4 (some .int) 2 0 0 [.ref (ad 11 0), .int x, .int y] ad (Nn n) I J R (po (some (.int (-1))) ad (Nn n) (up3 I 11 0 0 0) J R) := by
  refine CT.of 1 (L0 := [some (.ref (ad 11 0)), some (.int x), some (.int y), none]) (by decide +kernel) rfl (Nat.le_of_ble_eq_true rfl) ?_
  intro p e s m args below meth c C
  refine x_aload_n C dX4_asks_0 rfl ?_
  refine x_iconst C 0 (by decide) dX4_asks_1 ?_
  refine x_putI C g_X4_75 rfl (by first | assumption | exact Nat.one_pos) dX4_asks_2 ?_
  refine x_aload_n C dX4_asks_5 rfl ?_
  refine x_iload_n C dX4_asks_6 rfl ?_
  refine x_cV1 C yo_X4_isKey m_X4_82 rfl rfl (by first | assumption | exact Nat.one_pos) (c_X4_isKey_out l D dA base n ad (up3 I 11 0 0 0) J R hT (hM.up (by decide)) x hx) dX4_asks_7 rfl rfl (Nat.le_of_ble_eq_true rfl) ⟨by decide, by decide⟩ ⟨by decide, by decide⟩ ?_
  refine x_if_eq C 40 dX4_asks_10 (by decide) (fun h10 => ?_) (fun h10 => ?_)
  · skip
    refine x_iconst C (-1) (by decide) dX4_asks_40 ?_
    exact x_iret C (po_i _ _ _ _ _ _) dX4_asks_41
  · skip
    exact absurd rfl h10

set_option maxRecDepth 100000 in
set_option maxHeartbeats 4000000 in
theorem c_X4_asks_o2 (l : Launch) (D : va_G) (dA : Nat → ClassId) (base n : Nat) (ad : Fa) (I : Fi) (J : Fj) (R : Fr) (hT : ST n R) (hM : MG n I) (k : Nat) (hk : k < n) (x : Int32) (hx : x < 0 ∨ nI n ≤ x)  : CT l D dA base yX4_asks cX4_asks 4 (some .int) 2 0 0 [.ref (ad 11 0), .int (nI k), .int x] ad (Nn n) I J R (po (some (.int (-1))) ad (Nn n) (up3 I 11 0 0 0) J R) := by
  refine CT.of 1 (L0 := [some (.ref (ad 11 0)), some (.int (nI k)), some (.int x), none]) (by decide +kernel) rfl (Nat.le_of_ble_eq_true rfl) ?_
  intro p e s m args below meth c C
  refine x_aload_n C dX4_asks_0 rfl ?_
  refine x_iconst C 0 (by decide) dX4_asks_1 ?_
  refine x_putI C g_X4_75 rfl (by first | assumption | exact Nat.one_pos) dX4_asks_2 ?_
  refine x_aload_n C dX4_asks_5 rfl ?_
  refine x_iload_n C dX4_asks_6 rfl ?_
  refine x_cV1 C yo_X4_isKey m_X4_82 rfl rfl (by first | assumption | exact Nat.one_pos) (c_X4_isKey_in l D dA base n ad (up3 I 11 0 0 0) J R hT (hM.up (by decide)) k hk) dX4_asks_7 rfl rfl (Nat.le_of_ble_eq_true rfl) ⟨by decide, by decide⟩ ⟨by decide, by decide⟩ ?_
  refine x_if_eq C 40 dX4_asks_10 (by decide) (fun h10 => ?_) (fun h10 => ?_)
  · skip
    exact absurd h10 (by decide)
  · skip
    refine x_aload_n C dX4_asks_13 rfl ?_
    refine x_iload_n C dX4_asks_14 rfl ?_
    refine x_cV1 C yo_X4_isKey m_X4_82 rfl rfl (by first | assumption | exact Nat.one_pos) (c_X4_isKey_out l D dA base n ad (up3 I 11 0 0 0) J R hT (hM.up (by decide)) x hx) dX4_asks_15 rfl rfl (Nat.le_of_ble_eq_true rfl) ⟨by decide, by decide⟩ ⟨by decide, by decide⟩ ?_
    refine x_if_eq C 40 dX4_asks_18 (by decide) (fun h18 => ?_) (fun h18 => ?_)
    · skip
      refine x_iconst C (-1) (by decide) dX4_asks_40 ?_
      exact x_iret C (po_i _ _ _ _ _ _) dX4_asks_41
    · skip
      exact absurd rfl h18

set_option maxRecDepth 100000 in
set_option maxHeartbeats 4000000 in
theorem c_X4_asks_leaf (l : Launch) (D : va_G) (dA : Nat → ClassId) (base n : Nat) (ad : Fa) (I : Fi) (J : Fj) (R : Fr) (hT : ST n R) (hM : MG n I) (k : Nat) (hk : k < n) (j : Nat) (hj : j < n) (hf : I 23 0 k = -1) : CT l D dA base yX4_asks cX4_asks 4 (some .int) 2 0 0 [.ref (ad 11 0), .int (nI k), .int (nI j)] ad (Nn n) I J R (po (some (.int (-1))) ad (Nn n) (up3 I 11 0 0 0) J R) := by
  refine CT.of 1 (L0 := [some (.ref (ad 11 0)), some (.int (nI k)), some (.int (nI j)), none]) (by decide +kernel) rfl (Nat.le_of_ble_eq_true rfl) ?_
  intro p e s m args below meth c C
  refine x_aload_n C dX4_asks_0 rfl ?_
  refine x_iconst C 0 (by decide) dX4_asks_1 ?_
  refine x_putI C g_X4_75 rfl (by first | assumption | exact Nat.one_pos) dX4_asks_2 ?_
  refine x_aload_n C dX4_asks_5 rfl ?_
  refine x_iload_n C dX4_asks_6 rfl ?_
  refine x_cV1 C yo_X4_isKey m_X4_82 rfl rfl (by first | assumption | exact Nat.one_pos) (c_X4_isKey_in l D dA base n ad (up3 I 11 0 0 0) J R hT (hM.up (by decide)) k hk) dX4_asks_7 rfl rfl (Nat.le_of_ble_eq_true rfl) ⟨by decide, by decide⟩ ⟨by decide, by decide⟩ ?_
  refine x_if_eq C 40 dX4_asks_10 (by decide) (fun h10 => ?_) (fun h10 => ?_)
  · skip
    exact absurd h10 (by decide)
  · skip
    refine x_aload_n C dX4_asks_13 rfl ?_
    refine x_iload_n C dX4_asks_14 rfl ?_
    refine x_cV1 C yo_X4_isKey m_X4_82 rfl rfl (by first | assumption | exact Nat.one_pos) (c_X4_isKey_in l D dA base n ad (up3 I 11 0 0 0) J R hT (hM.up (by decide)) j hj) dX4_asks_15 rfl rfl (Nat.le_of_ble_eq_true rfl) ⟨by decide, by decide⟩ ⟨by decide, by decide⟩ ?_
    refine x_if_eq C 40 dX4_asks_18 (by decide) (fun h18 => ?_) (fun h18 => ?_)
    · skip
      exact absurd h18 (by decide)
    · skip
      refine x_aload_n C dX4_asks_21 rfl ?_
      refine x_iload_n C dX4_asks_22 rfl ?_
      refine x_cV1 C yo_X4_isLeaf m_X4_101 rfl rfl (by first | assumption | exact Nat.one_pos) (c_X4_isLeaf_in l D dA base n ad (up3 I 11 0 0 0) J R hT (hM.up (by decide)) k hk) dX4_asks_23 rfl rfl (Nat.le_of_ble_eq_true rfl) ⟨by decide, by decide⟩ ⟨by decide, by decide⟩ ?_
      refine x_if_ne C 40 dX4_asks_26 (by decide) (fun h26 => ?_) (fun h26 => ?_)
      · skip
        refine x_iconst C (-1) (by decide) dX4_asks_40 ?_
        exact x_iret C (po_i _ _ _ _ _ _) dX4_asks_41
      · skip
        rw [if_pos (by simpa [up3] using hf)] at h26
        exact absurd h26 (by decide)

set_option maxRecDepth 100000 in
set_option maxHeartbeats 4000000 in
theorem c_X4_asks_full (l : Launch) (D : va_G) (dA : Nat → ClassId) (base n : Nat) (ad : Fa) (I : Fi) (J : Fj) (R : Fr) (hT : ST n R) (hM : MG n I) (k : Nat) (hk : k < n) (j : Nat) (hj : j < n) (rs : Nat → Nat) (rw : Nat → Nat → Nat) (hW : MRW n I rs rw) (hf : ¬ I 23 0 k = -1) (hr : rs k = 8) : CT l D dA base yX4_asks cX4_asks 4 (some .int) 2 0 0 [.ref (ad 11 0), .int (nI k), .int (nI j)] ad (Nn n) I J R (po (some (.int (-1))) ad (Nn n) (up3 I 11 0 0 0) J R) := by
  refine CT.of 1 (L0 := [some (.ref (ad 11 0)), some (.int (nI k)), some (.int (nI j)), none]) (by decide +kernel) rfl (Nat.le_of_ble_eq_true rfl) ?_
  intro p e s m args below meth c C
  have hk40 : k < 40 := Nat.lt_of_lt_of_le hk hM.2
  refine x_aload_n C dX4_asks_0 rfl ?_
  refine x_iconst C 0 (by decide) dX4_asks_1 ?_
  refine x_putI C g_X4_75 rfl (by first | assumption | exact Nat.one_pos) dX4_asks_2 ?_
  refine x_aload_n C dX4_asks_5 rfl ?_
  refine x_iload_n C dX4_asks_6 rfl ?_
  refine x_cV1 C yo_X4_isKey m_X4_82 rfl rfl (by first | assumption | exact Nat.one_pos) (c_X4_isKey_in l D dA base n ad (up3 I 11 0 0 0) J R hT (hM.up (by decide)) k hk) dX4_asks_7 rfl rfl (Nat.le_of_ble_eq_true rfl) ⟨by decide, by decide⟩ ⟨by decide, by decide⟩ ?_
  refine x_if_eq C 40 dX4_asks_10 (by decide) (fun h10 => ?_) (fun h10 => ?_)
  · skip
    exact absurd h10 (by decide)
  · skip
    refine x_aload_n C dX4_asks_13 rfl ?_
    refine x_iload_n C dX4_asks_14 rfl ?_
    refine x_cV1 C yo_X4_isKey m_X4_82 rfl rfl (by first | assumption | exact Nat.one_pos) (c_X4_isKey_in l D dA base n ad (up3 I 11 0 0 0) J R hT (hM.up (by decide)) j hj) dX4_asks_15 rfl rfl (Nat.le_of_ble_eq_true rfl) ⟨by decide, by decide⟩ ⟨by decide, by decide⟩ ?_
    refine x_if_eq C 40 dX4_asks_18 (by decide) (fun h18 => ?_) (fun h18 => ?_)
    · skip
      exact absurd h18 (by decide)
    · skip
      refine x_aload_n C dX4_asks_21 rfl ?_
      refine x_iload_n C dX4_asks_22 rfl ?_
      refine x_cV1 C yo_X4_isLeaf m_X4_101 rfl rfl (by first | assumption | exact Nat.one_pos) (c_X4_isLeaf_in l D dA base n ad (up3 I 11 0 0 0) J R hT (hM.up (by decide)) k hk) dX4_asks_23 rfl rfl (Nat.le_of_ble_eq_true rfl) ⟨by decide, by decide⟩ ⟨by decide, by decide⟩ ?_
      refine x_if_ne C 40 dX4_asks_26 (by decide) (fun h26 => ?_) (fun h26 => ?_)
      · skip
        rw [if_neg (by simpa [up3] using hf)] at h26
        exact absurd rfl h26
      · skip
        refine x_aload_n C dX4_asks_29 rfl ?_
        refine x_getF C hT f_X4_13 rfl rfl (by first | assumption | exact Nat.one_pos) dX4_asks_30 ?_
        refine x_iload_n C dX4_asks_33 rfl ?_
        refine x_ialdN C (k) rfl rfl rfl (by first | assumption | exact Nat.one_pos) hk40 (by decide) dX4_asks_34 ?_
        rw [show (up3 I 11 0 0 0) 24 0 k = nI (rs k) by rw [up3_c _ _ _ _ _ (by decide)]; exact (hW k hk).1]
        refine x_bipush C 8 (by decide) dX4_asks_35 ?_
        refine x_icmp_ne C 42 dX4_asks_37 (by decide) (fun h37 => ?_) (fun h37 => ?_)
        · skip
          rw [hr] at h37
          exact absurd rfl h37
        · skip
          refine x_iconst C (-1) (by decide) dX4_asks_40 ?_
          exact x_iret C (po_i _ _ _ _ _ _) dX4_asks_41

theorem MRW.up {n : Nat} {I : Fi} {rs : Nat → Nat} {rw : Nat → Nat → Nat} (h : MRW n I rs rw) {c i k : Nat} {v : Int32} (h1 : ¬ c = 24) (h2 : ¬ c = 25) : MRW n (up3 I c i k v) rs rw := fun a ha => ⟨by rw [up3_c _ _ _ _ _ (Ne.symm h1)]; exact (h a ha).1, (h a ha).2.1, fun q hq => ⟨by rw [up3_c _ _ _ _ _ (Ne.symm h2)]; exact ((h a ha).2.2 q hq).1, ((h a ha).2.2 q hq).2⟩⟩
theorem MRW.ld {n : Nat} {I I1 : Fi} {rs : Nat → Nat} {rw : Nat → Nat → Nat} (h : MRW n I rs rw) (hl : LDs n I I1) : MRW n I1 rs rw := fun a ha => ⟨by rw [hl.1 _ _ _ (by omega)]; exact (h a ha).1, (h a ha).2.1, fun q hq => ⟨by rw [hl.1 _ _ _ (by omega)]; exact ((h a ha).2.2 q hq).1, ((h a ha).2.2 q hq).2⟩⟩
/-- the way of a ring: from j by the first that comes back to k, m steps -/
def WAY (n : Nat) (rs : Nat → Nat) (rw : Nat → Nat → Nat) (k j m : Nat) (way : Nat → Nat) : Prop := way 0 = j ∧ way m = k ∧ m ≤ 39 ∧ ∀ t, t < m → ¬ way t = k ∧ way t < n ∧ ∃ i, i < rs (way t) ∧ rw (way t) i = way (t + 1) ∧ Rch n rs rw (way (t + 1)) k ∧ ∀ i2, i2 < i → ¬ Rch n rs rw (rw (way t) i2) k
def mrS (I : Fi) (way : Nat → Nat) : Nat → Fi
  | 0 => I
  | t + 1 => up3 (up3 (mrS I way t) 42 0 (t + 1) (nI (way t))) 11 0 23 (nI (t + 2))
theorem mrS_o (I : Fi) (way : Nat → Nat) {c b d : Nat} (h1 : ¬ c = 42) (h2 : ¬ (c = 11 ∧ d = 23)) : ∀ t, mrS I way t c b d = I c b d
  | 0 => rfl
  | t + 1 => by rw [mrS, up3_n _ _ _ _ _ (fun z => h2 ⟨z.1, z.2.2⟩), up3_c _ _ _ _ _ h1, mrS_o I way h1 h2 t]
theorem mrS_z (I : Fi) (way : Nat → Nat) (h : I 11 0 23 = 1) : ∀ t, mrS I way t 11 0 23 = nI (t + 1)
  | 0 => h
  | t + 1 => by rw [mrS, up3_s]
set_option maxRecDepth 100000 in
set_option maxHeartbeats 4000000 in
theorem c_X4_asks_ring (l : Launch) (D : va_G) (dA : Nat → ClassId) (base n : Nat) (ad : Fa) (I : Fi) (J : Fj) (R : Fr) (hT : ST n R) (hM : MG n I) (k : Nat) (hk : k < n) (j : Nat) (hj : j < n) (rs : Nat → Nat) (rw : Nat → Nat → Nat) (hW : MRW n I rs rw) (hf : ¬ I 23 0 k = -1) (hr : rs k < 8) (hc : Rch n rs rw j k) (m0 : Nat) (way : Nat → Nat) (hw : WAY n rs rw k j m0 way) : CT l D dA base yX4_asks cX4_asks 4 (some .int) 2 0 0 [.ref (ad 11 0), .int (nI k), .int (nI j)] ad (Nn n) I J R (fun r a N2 I2 J2 R2 => r = some (.int (-2)) ∧ a = ad ∧ N2 = Nn n ∧ J2 = J ∧ R2 = R ∧ ∃ I1, FLD n rs rw k (up3 I 11 0 0 0) I1 ∧ I2 = mrS (up3 (up3 I1 42 0 0 (nI k)) 11 0 23 1) way m0) := by
  refine CT.of 1 (L0 := [some (.ref (ad 11 0)), some (.int (nI k)), some (.int (nI j)), none]) (by decide +kernel) rfl (Nat.le_of_ble_eq_true rfl) ?_
  intro p e s m args below meth c C
  have hk40 : k < 40 := Nat.lt_of_lt_of_le hk hM.2
  have hn40 := hM.2
  have loop : ∀ (I1 : Fi), FLD n rs rw k (up3 I 11 0 0 0) I1 → ∀ (g t : Nat), t + g = m0 → GX p l e (rmX 2 0 0) s m args below meth c (MQ below (CQ D dA base (fun r a N2 I2 J2 R2 => r = some (.int (-2)) ∧ a = ad ∧ N2 = Nn n ∧ J2 = J ∧ R2 = R ∧ ∃ I1, FLD n rs rw k (up3 I 11 0 0 0) I1 ∧ I2 = mrS (up3 (up3 I1 42 0 0 (nI k)) 11 0 23 1) way m0)) args s 0 0 (fun q => base ≤ q)) D dA base 4 ad (Nn n) (mrS (up3 (up3 I1 42 0 0 (nI k)) 11 0 23 1) way t) J R 0 0 70 [some (.ref (ad 11 0)), some (.int (nI k)), some (.int (nI j)), some (.int (nI (way t)))] [] := by
    intro I1 hFL g
    obtain ⟨w1, w2, w3, w4⟩ := hw
    induction g with
    | zero =>
      intro t ht
      have ht2 : t = m0 := by omega
      subst ht2
      refine x_iload_n C dX4_asks_70 rfl ?_
      refine x_iload_n C dX4_asks_71 rfl ?_
      refine x_icmp_eq C 104 dX4_asks_72 (by decide) (fun h72 => ?_) (fun h72 => ?_)
      · skip
        refine x_bipush C (-2) (by decide) dX4_asks_104 ?_
        exact x_iret C (⟨rfl, rfl, rfl, rfl, rfl, I1, hFL, rfl⟩) dX4_asks_106
      · skip
        rw [w2] at h72
        exact absurd rfl h72
    | succ g ih =>
      intro t ht
      obtain ⟨v1, v2, i, v3, v4, v5, v6⟩ := w4 t (by omega)
      have hz : (mrS (up3 (up3 I1 42 0 0 (nI k)) 11 0 23 1) way t) 11 0 23 = nI (t + 1) := mrS_z _ way (by simp [up3]) t
      have hst : up3 (up3 (mrS (up3 (up3 I1 42 0 0 (nI k)) 11 0 23 1) way t) 42 0 (t + 1) (nI (way t))) 11 0 23 (nI (t + 1) + 1) = (mrS (up3 (up3 I1 42 0 0 (nI k)) 11 0 23 1) way (t + 1)) := by rw [nI_1]; rfl
      have hW1 : MRW n (mrS (up3 (up3 I1 42 0 0 (nI k)) 11 0 23 1) way (t + 1)) rs rw := fun a ha => by
        have hh := (hW.up (c := 11) (i := 0) (k := 0) (v := 0) (by decide) (by decide)).ld hFL.1 a ha
        refine ⟨by rw [mrS_o _ _ (by omega) (by omega)]; simp [up3, hh.1], hh.2.1, fun q hq => ⟨by rw [mrS_o _ _ (by omega) (by omega)]; simp [up3, (hh.2.2 q hq).1], (hh.2.2 q hq).2⟩⟩
      have hl44 : ∀ q, (mrS (up3 (up3 I1 42 0 0 (nI k)) 11 0 23 1) way (t + 1)) 44 0 q = I1 44 0 q := fun q => by rw [mrS_o _ _ (by omega) (by omega)]; simp [up3]
      obtain ⟨hr1, hr2⟩ := (hW _ v2).2.2 i v3
      have hlead : ¬ (mrS (up3 (up3 I1 42 0 0 (nI k)) 11 0 23 1) way (t + 1)) 44 0 (rw (way t) i) = 0 := by rw [hl44, (hFL.2 _ hr2).mpr (by rw [v4]; exact v5)]; decide
      have hmin : ∀ i2, i2 < i → (mrS (up3 (up3 I1 42 0 0 (nI k)) 11 0 23 1) way (t + 1)) 44 0 (rw (way t) i2) = 0 := fun i2 h2 => by
        obtain ⟨_, hr4⟩ := (hW _ v2).2.2 i2 (by omega)
        rw [hl44]
        exact (hFL.1.2 _ hr4).elim id (fun z => absurd ((hFL.2 _ hr4).mp z) (v6 i2 h2))
      refine x_iload_n C dX4_asks_70 rfl ?_
      refine x_iload_n C dX4_asks_71 rfl ?_
      refine x_icmp_eq C 104 dX4_asks_72 (by decide) (fun h72 => ?_) (fun h72 => ?_)
      · skip
        exact absurd ((nI_eq (by omega) (by omega)).mp h72) v1
      · skip
        refine x_aload_n C dX4_asks_75 rfl ?_
        refine x_getF C hT f_X4_69 rfl rfl (by first | assumption | exact Nat.one_pos) dX4_asks_76 ?_
        refine x_aload_n C dX4_asks_79 rfl ?_
        refine x_getI C f_X4_108 rfl (by first | assumption | exact Nat.one_pos) dX4_asks_80 ?_
        refine x_iload_n C dX4_asks_83 rfl ?_
        refine x_iastN C (t + 1) hz rfl rfl (by first | assumption | exact Nat.one_pos) (by omega) (by decide) dX4_asks_84 ?_
        refine x_aload_n C dX4_asks_85 rfl ?_
        refine x_dup C rfl dX4_asks_86 ?_
        refine x_getI C f_X4_108 rfl (by first | assumption | exact Nat.one_pos) dX4_asks_87 ?_
        refine x_iconst C 1 (by decide) dX4_asks_90 ?_
        refine x_iadd C dX4_asks_91 ?_
        rw [show up3 (mrS (up3 (up3 I1 42 0 0 (nI k)) 11 0 23 1) way t) 42 0 (t + 1) (nI (way t)) 11 0 23 = nI (t + 1) by rw [up3_c _ _ _ _ _ (by decide)]; exact hz]
        refine x_putI C g_X4_108 rfl (by first | assumption | exact Nat.one_pos) dX4_asks_92 ?_
        rw [hst]
        refine x_aload_n C dX4_asks_95 rfl ?_
        refine x_iload_n C dX4_asks_96 rfl ?_
        refine x_cV1 C yo_X4_firstBack m_X4_111 rfl rfl (by first | assumption | exact Nat.one_pos) (c_X4_firstBack l D dA base n ad (mrS (up3 (up3 I1 42 0 0 (nI k)) 11 0 23 1) way (t + 1)) J R hT hn40 (way t) i v2 rs rw hW1 v3 hlead hmin) dX4_asks_97 rfl rfl (Nat.le_of_ble_eq_true rfl) ⟨by decide, by decide⟩ ⟨by decide, by decide⟩ ?_
        rw [v4]
        refine x_istore_n C dX4_asks_100 (by decide) rfl rfl ?_
        refine x_goto C 70 dX4_asks_101 (by decide) ?_
        exact ih (t + 1) (by omega)
  refine x_aload_n C dX4_asks_0 rfl ?_
  refine x_iconst C 0 (by decide) dX4_asks_1 ?_
  refine x_putI C g_X4_75 rfl (by first | assumption | exact Nat.one_pos) dX4_asks_2 ?_
  refine x_aload_n C dX4_asks_5 rfl ?_
  refine x_iload_n C dX4_asks_6 rfl ?_
  refine x_cV1 C yo_X4_isKey m_X4_82 rfl rfl (by first | assumption | exact Nat.one_pos) (c_X4_isKey_in l D dA base n ad (up3 I 11 0 0 0) J R hT (hM.up (by decide)) k hk) dX4_asks_7 rfl rfl (Nat.le_of_ble_eq_true rfl) ⟨by decide, by decide⟩ ⟨by decide, by decide⟩ ?_
  refine x_if_eq C 40 dX4_asks_10 (by decide) (fun h10 => ?_) (fun h10 => ?_)
  · skip
    exact absurd h10 (by decide)
  · skip
    refine x_aload_n C dX4_asks_13 rfl ?_
    refine x_iload_n C dX4_asks_14 rfl ?_
    refine x_cV1 C yo_X4_isKey m_X4_82 rfl rfl (by first | assumption | exact Nat.one_pos) (c_X4_isKey_in l D dA base n ad (up3 I 11 0 0 0) J R hT (hM.up (by decide)) j hj) dX4_asks_15 rfl rfl (Nat.le_of_ble_eq_true rfl) ⟨by decide, by decide⟩ ⟨by decide, by decide⟩ ?_
    refine x_if_eq C 40 dX4_asks_18 (by decide) (fun h18 => ?_) (fun h18 => ?_)
    · skip
      exact absurd h18 (by decide)
    · skip
      refine x_aload_n C dX4_asks_21 rfl ?_
      refine x_iload_n C dX4_asks_22 rfl ?_
      refine x_cV1 C yo_X4_isLeaf m_X4_101 rfl rfl (by first | assumption | exact Nat.one_pos) (c_X4_isLeaf_in l D dA base n ad (up3 I 11 0 0 0) J R hT (hM.up (by decide)) k hk) dX4_asks_23 rfl rfl (Nat.le_of_ble_eq_true rfl) ⟨by decide, by decide⟩ ⟨by decide, by decide⟩ ?_
      refine x_if_ne C 40 dX4_asks_26 (by decide) (fun h26 => ?_) (fun h26 => ?_)
      · skip
        rw [if_neg (by simpa [up3] using hf)] at h26
        exact absurd rfl h26
      · skip
        refine x_aload_n C dX4_asks_29 rfl ?_
        refine x_getF C hT f_X4_13 rfl rfl (by first | assumption | exact Nat.one_pos) dX4_asks_30 ?_
        refine x_iload_n C dX4_asks_33 rfl ?_
        refine x_ialdN C (k) rfl rfl rfl (by first | assumption | exact Nat.one_pos) hk40 (by decide) dX4_asks_34 ?_
        rw [show (up3 I 11 0 0 0) 24 0 k = nI (rs k) by rw [up3_c _ _ _ _ _ (by decide)]; exact (hW k hk).1]
        refine x_bipush C 8 (by decide) dX4_asks_35 ?_
        refine x_icmp_ne C 42 dX4_asks_37 (by decide) (fun h37 => ?_) (fun h37 => ?_)
        · skip
          refine x_aload_n C dX4_asks_42 rfl ?_
          refine x_iload_n C dX4_asks_43 rfl ?_
          refine x_callV C yo_X4_fillLeads m_X4_104 rfl rfl (by first | assumption | exact Nat.one_pos) (c_X4_fillLeads l D dA base n ad (up3 I 11 0 0 0) J R hT (hM.up (by decide)) k hk rs rw (hW.up (by decide) (by decide))) dX4_asks_44 rfl rfl (Nat.le_of_ble_eq_true rfl) ⟨by decide, by decide⟩ ⟨by decide, by decide⟩ ?_
          intro r a2 N2 I1 J2 R2 hpo
          obtain ⟨e0, e1, e2, e3, e4, hFL⟩ := hpo
          rw [e0, e1, e2, e3, e4]
          simp only [Option.toList, List.nil_append]
          refine x_aload_n C dX4_asks_47 rfl ?_
          refine x_getF C hT f_X4_72 rfl rfl (by first | assumption | exact Nat.one_pos) dX4_asks_48 ?_
          refine x_iload_n C dX4_asks_51 rfl ?_
          refine x_zaldN C (j) rfl rfl rfl (by first | assumption | exact Nat.one_pos) (by omega) (by decide) dX4_asks_52 ?_
          refine x_if_eq C 107 dX4_asks_53 (by decide) (fun h53 => ?_) (fun h53 => ?_)
          · skip
            rw [(hFL.2 j hj).mpr hc] at h53
            exact absurd h53 (by decide)
          · skip
            refine x_aload_n C dX4_asks_56 rfl ?_
            refine x_getF C hT f_X4_69 rfl rfl (by first | assumption | exact Nat.one_pos) dX4_asks_57 ?_
            refine x_iconst C 0 (by decide) dX4_asks_60 ?_
            refine x_iload_n C dX4_asks_61 rfl ?_
            refine x_iastN C (0) rfl rfl rfl (by first | assumption | exact Nat.one_pos) (by decide) (by decide) dX4_asks_62 ?_
            refine x_aload_n C dX4_asks_63 rfl ?_
            refine x_iconst C 1 (by decide) dX4_asks_64 ?_
            refine x_putI C g_X4_108 rfl (by first | assumption | exact Nat.one_pos) dX4_asks_65 ?_
            refine x_iload_n C dX4_asks_68 rfl ?_
            refine x_istore_n C dX4_asks_69 (by decide) rfl rfl ?_
            exact x_eqL (loop I1 hFL m0 0 (by omega)) rfl (by rw [hw.1]; rfl) rfl rfl rfl rfl
        · skip
          exact absurd ((nI_eq (b := 8) (by omega) (by decide)).mp h37) (by omega)

set_option maxRecDepth 100000 in
set_option maxHeartbeats 4000000 in
theorem c_X4_asks_yes (l : Launch) (D : va_G) (dA : Nat → ClassId) (base n : Nat) (ad : Fa) (I : Fi) (J : Fj) (R : Fr) (hT : ST n R) (hM : MG n I) (k : Nat) (hk : k < n) (j : Nat) (hj : j < n) (rs : Nat → Nat) (rw : Nat → Nat → Nat) (hW : MRW n I rs rw) (hf : ¬ I 23 0 k = -1) (hr : rs k < 8) (hc : ¬ Rch n rs rw j k) (zs : Nat → Nat) (hH : HI I zs) : CT l D dA base yX4_asks cX4_asks 4 (some .int) 2 0 0 [.ref (ad 11 0), .int (nI k), .int (nI j)] ad (Nn n) I J R (fun r a N2 I2 J2 R2 => r = some (.int 1) ∧ a = ad ∧ N2 = Nn n ∧ J2 = J ∧ R2 = R ∧ ∃ I1, FLD n rs rw k (up3 I 11 0 0 0) I1 ∧ I2 = up3 (nxI (up3 (up3 I1 25 0 (8 * k + rs k) (nI j)) 24 0 k (nI (rs k + 1)))) 29 0 k (I 11 0 1 + 1)) := by
  refine CT.of 1 (L0 := [some (.ref (ad 11 0)), some (.int (nI k)), some (.int (nI j)), none]) (by decide +kernel) rfl (Nat.le_of_ble_eq_true rfl) ?_
  intro p e s m args below meth c C
  have hk40 : k < 40 := Nat.lt_of_lt_of_le hk hM.2
  have hn40 := hM.2
  refine x_aload_n C dX4_asks_0 rfl ?_
  refine x_iconst C 0 (by decide) dX4_asks_1 ?_
  refine x_putI C g_X4_75 rfl (by first | assumption | exact Nat.one_pos) dX4_asks_2 ?_
  refine x_aload_n C dX4_asks_5 rfl ?_
  refine x_iload_n C dX4_asks_6 rfl ?_
  refine x_cV1 C yo_X4_isKey m_X4_82 rfl rfl (by first | assumption | exact Nat.one_pos) (c_X4_isKey_in l D dA base n ad (up3 I 11 0 0 0) J R hT (hM.up (by decide)) k hk) dX4_asks_7 rfl rfl (Nat.le_of_ble_eq_true rfl) ⟨by decide, by decide⟩ ⟨by decide, by decide⟩ ?_
  refine x_if_eq C 40 dX4_asks_10 (by decide) (fun h10 => ?_) (fun h10 => ?_)
  · skip
    exact absurd h10 (by decide)
  · skip
    refine x_aload_n C dX4_asks_13 rfl ?_
    refine x_iload_n C dX4_asks_14 rfl ?_
    refine x_cV1 C yo_X4_isKey m_X4_82 rfl rfl (by first | assumption | exact Nat.one_pos) (c_X4_isKey_in l D dA base n ad (up3 I 11 0 0 0) J R hT (hM.up (by decide)) j hj) dX4_asks_15 rfl rfl (Nat.le_of_ble_eq_true rfl) ⟨by decide, by decide⟩ ⟨by decide, by decide⟩ ?_
    refine x_if_eq C 40 dX4_asks_18 (by decide) (fun h18 => ?_) (fun h18 => ?_)
    · skip
      exact absurd h18 (by decide)
    · skip
      refine x_aload_n C dX4_asks_21 rfl ?_
      refine x_iload_n C dX4_asks_22 rfl ?_
      refine x_cV1 C yo_X4_isLeaf m_X4_101 rfl rfl (by first | assumption | exact Nat.one_pos) (c_X4_isLeaf_in l D dA base n ad (up3 I 11 0 0 0) J R hT (hM.up (by decide)) k hk) dX4_asks_23 rfl rfl (Nat.le_of_ble_eq_true rfl) ⟨by decide, by decide⟩ ⟨by decide, by decide⟩ ?_
      refine x_if_ne C 40 dX4_asks_26 (by decide) (fun h26 => ?_) (fun h26 => ?_)
      · skip
        rw [if_neg (by simpa [up3] using hf)] at h26
        exact absurd rfl h26
      · skip
        refine x_aload_n C dX4_asks_29 rfl ?_
        refine x_getF C hT f_X4_13 rfl rfl (by first | assumption | exact Nat.one_pos) dX4_asks_30 ?_
        refine x_iload_n C dX4_asks_33 rfl ?_
        refine x_ialdN C (k) rfl rfl rfl (by first | assumption | exact Nat.one_pos) hk40 (by decide) dX4_asks_34 ?_
        rw [show (up3 I 11 0 0 0) 24 0 k = nI (rs k) by rw [up3_c _ _ _ _ _ (by decide)]; exact (hW k hk).1]
        refine x_bipush C 8 (by decide) dX4_asks_35 ?_
        refine x_icmp_ne C 42 dX4_asks_37 (by decide) (fun h37 => ?_) (fun h37 => ?_)
        · skip
          refine x_aload_n C dX4_asks_42 rfl ?_
          refine x_iload_n C dX4_asks_43 rfl ?_
          refine x_callV C yo_X4_fillLeads m_X4_104 rfl rfl (by first | assumption | exact Nat.one_pos) (c_X4_fillLeads l D dA base n ad (up3 I 11 0 0 0) J R hT (hM.up (by decide)) k hk rs rw (hW.up (by decide) (by decide))) dX4_asks_44 rfl rfl (Nat.le_of_ble_eq_true rfl) ⟨by decide, by decide⟩ ⟨by decide, by decide⟩ ?_
          intro r a2 N2 I1 J2 R2 hpo
          obtain ⟨e0, e1, e2, e3, e4, hFL⟩ := hpo
          rw [e0, e1, e2, e3, e4]
          simp only [Option.toList, List.nil_append]
          have h24 : I1 24 0 k = nI (rs k) := by rw [hFL.1.1 _ _ _ (by omega), up3_c _ _ _ _ _ (by decide)]; exact (hW k hk).1
          have h11 : I1 11 0 1 = I 11 0 1 := by rw [hFL.1.1 _ _ _ (by omega)]; simp [up3]
          have hH1 : HI I1 zs := fun q hq => ⟨by rw [hFL.1.1 _ _ _ (by omega), up3_c _ _ _ _ _ (by decide)]; exact (hH q hq).1, (hH q hq).2⟩
          refine x_aload_n C dX4_asks_47 rfl ?_
          refine x_getF C hT f_X4_72 rfl rfl (by first | assumption | exact Nat.one_pos) dX4_asks_48 ?_
          refine x_iload_n C dX4_asks_51 rfl ?_
          refine x_zaldN C (j) rfl rfl rfl (by first | assumption | exact Nat.one_pos) (by omega) (by decide) dX4_asks_52 ?_
          refine x_if_eq C 107 dX4_asks_53 (by decide) (fun h53 => ?_) (fun h53 => ?_)
          · skip
            refine x_aload_n C dX4_asks_107 rfl ?_
            refine x_getF C hT f_X4_16 rfl rfl (by first | assumption | exact Nat.one_pos) dX4_asks_108 ?_
            refine x_bipush C 8 (by decide) dX4_asks_111 ?_
            refine x_iload_n C dX4_asks_113 rfl ?_
            refine x_imul C dX4_asks_114 ?_
            refine x_aload_n C dX4_asks_115 rfl ?_
            refine x_getF C hT f_X4_13 rfl rfl (by first | assumption | exact Nat.one_pos) dX4_asks_116 ?_
            refine x_iload_n C dX4_asks_119 rfl ?_
            refine x_ialdN C (k) rfl rfl rfl (by first | assumption | exact Nat.one_pos) hk40 (by decide) dX4_asks_120 ?_
            rw [h24]
            refine x_iadd C dX4_asks_121 ?_
            refine x_iload_n C dX4_asks_122 rfl ?_
            refine x_iastN C (8 * k + rs k) (ix8 k (rs k)) rfl rfl (by first | assumption | exact Nat.one_pos) (by omega) (by decide) dX4_asks_123 ?_
            refine x_aload_n C dX4_asks_124 rfl ?_
            refine x_getF C hT f_X4_13 rfl rfl (by first | assumption | exact Nat.one_pos) dX4_asks_125 ?_
            refine x_iload_n C dX4_asks_128 rfl ?_
            refine x_dup2 C rfl rfl dX4_asks_129 ?_
            refine x_ialdN C (k) rfl rfl rfl (by first | assumption | exact Nat.one_pos) hk40 (by decide) dX4_asks_130 ?_
            rw [up3_c _ _ _ _ _ (by decide), h24]
            refine x_iconst C 1 (by decide) dX4_asks_131 ?_
            refine x_iadd C dX4_asks_132 ?_
            rw [nI_1]
            refine x_iastN C (k) rfl rfl rfl (by first | assumption | exact Nat.one_pos) hk40 (by decide) dX4_asks_133 ?_
            refine x_aload_n C dX4_asks_134 rfl ?_
            refine x_getF C hT f_X4_28 rfl rfl (by first | assumption | exact Nat.one_pos) dX4_asks_135 ?_
            refine x_iload_n C dX4_asks_138 rfl ?_
            refine x_aload_n C dX4_asks_139 rfl ?_
            refine x_cV1 C yo_X4_next m_X4_114 rfl rfl (by first | assumption | exact Nat.one_pos) (c_X4_next l D dA base n ad (up3 (up3 I1 25 0 (8 * k + rs k) (nI j)) 24 0 k (nI (rs k + 1))) J R hT zs ((hH1.up (by decide)).up (by decide))) dX4_asks_140 rfl rfl (Nat.le_of_ble_eq_true rfl) ⟨by decide, by decide⟩ ⟨by decide, by decide⟩ ?_
            refine x_iastN C (k) rfl rfl rfl (by first | assumption | exact Nat.one_pos) hk40 (by decide) dX4_asks_143 ?_
            refine x_iconst C 1 (by decide) dX4_asks_144 ?_
            exact x_iret C (⟨rfl, rfl, rfl, rfl, rfl, I1, hFL, by rw [show up3 (up3 I1 25 0 (8 * k + rs k) (nI j)) 24 0 k (nI (rs k + 1)) 11 0 1 = I 11 0 1 by simp [up3, h11]]⟩) dX4_asks_145
          · skip
            exact absurd ((hFL.1.2 j hj).elim id (fun z => absurd ((hFL.2 j hj).mp z) hc)) h53
        · skip
          exact absurd ((nI_eq (b := 8) (by omega) (by decide)).mp h37) (by omega)

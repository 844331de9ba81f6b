/-! a check goes on -/
set_option maxRecDepth 100000 in
set_option maxHeartbeats 4000000 in
theorem c_chk_end (l : Launch) (D : va_G) (dA : Nat → ClassId) (base n : Nat) (ad : Fa) (I : Fi) (J : Fj) (R : Fr) (hT : ST n R) (i p0 z : Nat) (hi : i < n) (hp : p0 < 5) (hs : I 9 p0 1 = nI (z + 1)) (hz : z < 40) (ht : R 10 p0 z = some i) (k a r : Nat) (hk : I 7 i 1 = nI k) (ha : I 4 i 13 = nI a) (ha8 : a ≤ 8) (hr : I 4 i 3 = nI r) (hr8 : r ≤ 8) (hka : k = a) : CT l D dA base yX3_goOnChecking cX3_goOnChecking 4 (some .int) 4 0 0 [.ref (ad 0 0), .ref (ad 4 i), .ref (ad 9 p0)] ad (Nn n) I J R (po (some (.int 2)) ad (Nn n) (ttI (up3 (up3 I 4 i 15 (I 4 i 15 + 1)) 4 i 11 (I 0 0 2)) p0 i z) J R) := by
  refine CT.of 1 (L0 := [some (.ref (ad 0 0)), some (.ref (ad 4 i)), some (.ref (ad 9 p0)), none]) (by decide +kernel) rfl (Nat.le_of_ble_eq_true rfl) ?_
  intro p e s m args below meth c C
  refine x_aload_n C dX3_goOnChecking_0 rfl ?_
  refine x_aload_n C dX3_goOnChecking_1 rfl ?_
  refine x_aload_n C dX3_goOnChecking_2 rfl ?_
  refine x_getF C hT f_X3_167 rfl rfl (by first | assumption | exact Nat.one_pos) dX3_goOnChecking_3 ?_
  refine x_getI C f_X3_181 rfl (by first | assumption | exact Nat.one_pos) dX3_goOnChecking_6 ?_
  refine x_cV1 C yo_X0_askedPlace m_X3_142 rfl rfl (by first | assumption | exact Nat.one_pos) (c_X0_askedPlace_out l D dA base n ad I J R hT i a (I 7 i 1) hi ha (Or.inr (by rw [hk, hka]; exact Int32.le_refl _))) dX3_goOnChecking_9 rfl rfl (Nat.le_of_ble_eq_true rfl) ⟨by decide, by decide⟩ ⟨by decide, by decide⟩ ?_
  refine x_cV1 C yo_X0_rowKey m_X3_184 rfl rfl (by first | assumption | exact Nat.one_pos) (c_X0_rowKey_out l D dA base n ad I J R hT i r (-1) hi hr (Or.inl (by decide))) dX3_goOnChecking_12 rfl rfl (Nat.le_of_ble_eq_true rfl) ⟨by decide, by decide⟩ ⟨by decide, by decide⟩ ?_
  refine x_astore_nN C dX3_goOnChecking_15 (by decide) rfl rfl ?_
  refine x_aload_nN C dX3_goOnChecking_16 rfl ?_
  refine x_ifnonnullN C dX3_goOnChecking_17 ?_
  refine x_aload_n C dX3_goOnChecking_20 rfl ?_
  refine x_dup C rfl dX3_goOnChecking_21 ?_
  refine x_getI C f_X3_136 rfl (by first | assumption | exact Nat.one_pos) dX3_goOnChecking_22 ?_
  refine x_iconst C 1 (by decide) dX3_goOnChecking_25 ?_
  refine x_iadd C dX3_goOnChecking_26 ?_
  refine x_putI C g_X3_136 rfl (by first | assumption | exact Nat.one_pos) dX3_goOnChecking_27 ?_
  refine x_aload_n C dX3_goOnChecking_30 rfl ?_
  refine x_aload_n C dX3_goOnChecking_31 rfl ?_
  refine x_aload_n C dX3_goOnChecking_32 rfl ?_
  refine x_cV0 C yo_X3_makeSure m_X3_187 rfl rfl (by first | assumption | exact Nat.one_pos) (c_X3_makeSure l D dA base n ad (up3 I 4 i 15 (I 4 i 15 + 1)) J R hT p0 z i hp (by rw [up3_c _ _ _ _ _ (by decide)]; exact hs) hz ht hi) dX3_goOnChecking_33 rfl rfl (Nat.le_of_ble_eq_true rfl) ⟨by decide, by decide⟩ ⟨by decide, by decide⟩ ?_
  refine x_iconst C 2 (by decide) dX3_goOnChecking_36 ?_
  exact x_iret C (⟨rfl, rfl, rfl, by rw [up3_c I 4 i 15 _ (show (0 : Nat) ≠ 4 by decide)], rfl, rfl⟩) dX3_goOnChecking_37

set_option maxRecDepth 100000 in
set_option maxHeartbeats 4000000 in
theorem c_chk_wait (l : Launch) (D : va_G) (dA : Nat → ClassId) (base n : Nat) (ad : Fa) (I : Fi) (J : Fj) (R : Fr) (hT : ST n R) (i p0 z : Nat) (hi : i < n) (hp : p0 < 5) (hs : I 9 p0 1 = nI (z + 1)) (hz : z < 40) (ht : R 10 p0 z = some i) (k a r : Nat) (hk : I 7 i 1 = nI k) (ha : I 4 i 13 = nI a) (ha8 : a ≤ 8) (hr : I 4 i 3 = nI r) (hr8 : r ≤ 8) (pl j : Nat) (hka : k < a) (hpl : I 6 i k = nI pl) (hplr : pl < r) (hj : R 5 i pl = some j) (hjn : j < n) (hsu : sure I j = false) (hq : ¬ I 4 j 16 = 0) : CT l D dA base yX3_goOnChecking cX3_goOnChecking 4 (some .int) 4 0 0 [.ref (ad 0 0), .ref (ad 4 i), .ref (ad 9 p0)] ad (Nn n) I J R (po (some (.int 3)) ad (Nn n) I J R) := by
  refine CT.of 1 (L0 := [some (.ref (ad 0 0)), some (.ref (ad 4 i)), some (.ref (ad 9 p0)), none]) (by decide +kernel) rfl (Nat.le_of_ble_eq_true rfl) ?_
  intro p e s m args below meth c C
  refine x_aload_n C dX3_goOnChecking_0 rfl ?_
  refine x_aload_n C dX3_goOnChecking_1 rfl ?_
  refine x_aload_n C dX3_goOnChecking_2 rfl ?_
  refine x_getF C hT f_X3_167 rfl rfl (by first | assumption | exact Nat.one_pos) dX3_goOnChecking_3 ?_
  refine x_getI C f_X3_181 rfl (by first | assumption | exact Nat.one_pos) dX3_goOnChecking_6 ?_
  rw [hk]
  refine x_cV1 C yo_X0_askedPlace m_X3_142 rfl rfl (by first | assumption | exact Nat.one_pos) (c_X0_askedPlace_in l D dA base n ad I J R hT i k a hi ha hka ha8) dX3_goOnChecking_9 rfl rfl (Nat.le_of_ble_eq_true rfl) ⟨by decide, by decide⟩ ⟨by decide, by decide⟩ ?_
  rw [hpl]
  refine x_cV1 C yo_X0_rowKey m_X3_184 rfl rfl (by first | assumption | exact Nat.one_pos) (c_X0_rowKey_in l D dA base n ad I J R hT i pl r j hi hr hplr hr8 hj) dX3_goOnChecking_12 rfl rfl (Nat.le_of_ble_eq_true rfl) ⟨by decide, by decide⟩ ⟨by decide, by decide⟩ ?_
  refine x_astore_n C dX3_goOnChecking_15 (by decide) rfl rfl ?_
  refine x_aload_n C dX3_goOnChecking_16 rfl ?_
  refine x_ifnonnull C 38 dX3_goOnChecking_17 (by decide) ?_
  refine x_aload_n C dX3_goOnChecking_38 rfl ?_
  refine x_aload_n C dX3_goOnChecking_39 rfl ?_
  refine x_cV1 C yo_X3_isSure m_X3_100 rfl rfl (by first | assumption | exact Nat.one_pos) (c_X3_isSure l D dA base n ad I J R hT j hjn) dX3_goOnChecking_40 rfl rfl (Nat.le_of_ble_eq_true rfl) ⟨by decide, by decide⟩ ⟨by decide, by decide⟩ ?_
  refine x_if_ne C 52 dX3_goOnChecking_43 (by decide) (fun h43 => ?_) (fun h43 => ?_)
  · skip
    rw [hsu] at h43
    exact absurd rfl h43
  · skip
    refine x_aload_n C dX3_goOnChecking_46 rfl ?_
    refine x_aload_n C dX3_goOnChecking_47 rfl ?_
    refine x_cS1 C yo_X3_findFirst rfl m_X3_191 (c_X3_findFirst_w l D dA base n ad I J R hT j p0 hjn hp hq) dX3_goOnChecking_48 rfl rfl (Nat.le_of_ble_eq_true rfl) ⟨by decide, by decide⟩ ⟨by decide, by decide⟩ ?_
    exact x_iret C (po_i _ _ _ _ _ _) dX3_goOnChecking_51

set_option maxRecDepth 100000 in
set_option maxHeartbeats 4000000 in
theorem c_chk_put (l : Launch) (D : va_G) (dA : Nat → ClassId) (base n : Nat) (ad : Fa) (I : Fi) (J : Fj) (R : Fr) (hT : ST n R) (i p0 z : Nat) (hi : i < n) (hp : p0 < 5) (hs : I 9 p0 1 = nI (z + 1)) (hz : z < 40) (ht : R 10 p0 z = some i) (k a r : Nat) (hk : I 7 i 1 = nI k) (ha : I 4 i 13 = nI a) (ha8 : a ≤ 8) (hr : I 4 i 3 = nI r) (hr8 : r ≤ 8) (pl j : Nat) (hka : k < a) (hpl : I 6 i k = nI pl) (hplr : pl < r) (hj : R 5 i pl = some j) (hjn : j < n) (hsu : sure I j = false) (hq : I 4 j 16 = 0) (hz2 : z + 1 < 40) : CT l D dA base yX3_goOnChecking cX3_goOnChecking 4 (some .int) 4 0 0 [.ref (ad 0 0), .ref (ad 4 i), .ref (ad 9 p0)] ad (Nn n) I J R (po (some (.int 1)) ad (Nn n) (putI I p0 j (z + 1)) (up3 J 7 j 3 0) (up3 R 10 p0 (z + 1) (some j))) := by
  refine CT.of 1 (L0 := [some (.ref (ad 0 0)), some (.ref (ad 4 i)), some (.ref (ad 9 p0)), none]) (by decide +kernel) rfl (Nat.le_of_ble_eq_true rfl) ?_
  intro p e s m args below meth c C
  refine x_aload_n C dX3_goOnChecking_0 rfl ?_
  refine x_aload_n C dX3_goOnChecking_1 rfl ?_
  refine x_aload_n C dX3_goOnChecking_2 rfl ?_
  refine x_getF C hT f_X3_167 rfl rfl (by first | assumption | exact Nat.one_pos) dX3_goOnChecking_3 ?_
  refine x_getI C f_X3_181 rfl (by first | assumption | exact Nat.one_pos) dX3_goOnChecking_6 ?_
  rw [hk]
  refine x_cV1 C yo_X0_askedPlace m_X3_142 rfl rfl (by first | assumption | exact Nat.one_pos) (c_X0_askedPlace_in l D dA base n ad I J R hT i k a hi ha hka ha8) dX3_goOnChecking_9 rfl rfl (Nat.le_of_ble_eq_true rfl) ⟨by decide, by decide⟩ ⟨by decide, by decide⟩ ?_
  rw [hpl]
  refine x_cV1 C yo_X0_rowKey m_X3_184 rfl rfl (by first | assumption | exact Nat.one_pos) (c_X0_rowKey_in l D dA base n ad I J R hT i pl r j hi hr hplr hr8 hj) dX3_goOnChecking_12 rfl rfl (Nat.le_of_ble_eq_true rfl) ⟨by decide, by decide⟩ ⟨by decide, by decide⟩ ?_
  refine x_astore_n C dX3_goOnChecking_15 (by decide) rfl rfl ?_
  refine x_aload_n C dX3_goOnChecking_16 rfl ?_
  refine x_ifnonnull C 38 dX3_goOnChecking_17 (by decide) ?_
  refine x_aload_n C dX3_goOnChecking_38 rfl ?_
  refine x_aload_n C dX3_goOnChecking_39 rfl ?_
  refine x_cV1 C yo_X3_isSure m_X3_100 rfl rfl (by first | assumption | exact Nat.one_pos) (c_X3_isSure l D dA base n ad I J R hT j hjn) dX3_goOnChecking_40 rfl rfl (Nat.le_of_ble_eq_true rfl) ⟨by decide, by decide⟩ ⟨by decide, by decide⟩ ?_
  refine x_if_ne C 52 dX3_goOnChecking_43 (by decide) (fun h43 => ?_) (fun h43 => ?_)
  · skip
    rw [hsu] at h43
    exact absurd rfl h43
  · skip
    refine x_aload_n C dX3_goOnChecking_46 rfl ?_
    refine x_aload_n C dX3_goOnChecking_47 rfl ?_
    refine x_cS1 C yo_X3_findFirst rfl m_X3_191 (c_X3_findFirst_p l D dA base n ad I J R hT j p0 (z + 1) hjn hp hq hs hz2) dX3_goOnChecking_48 rfl rfl (Nat.le_of_ble_eq_true rfl) ⟨by decide, by decide⟩ ⟨by decide, by decide⟩ ?_
    exact x_iret C (po_i _ _ _ _ _ _) dX3_goOnChecking_51

set_option maxRecDepth 100000 in
set_option maxHeartbeats 4000000 in
theorem c_chk_chg (l : Launch) (D : va_G) (dA : Nat → ClassId) (base n : Nat) (ad : Fa) (I : Fi) (J : Fj) (R : Fr) (hT : ST n R) (i p0 z : Nat) (hi : i < n) (hp : p0 < 5) (hs : I 9 p0 1 = nI (z + 1)) (hz : z < 40) (ht : R 10 p0 z = some i) (k a r : Nat) (hk : I 7 i 1 = nI k) (ha : I 4 i 13 = nI a) (ha8 : a ≤ 8) (hr : I 4 i 3 = nI r) (hr8 : r ≤ 8) (pl j : Nat) (hka : k < a) (hpl : I 6 i k = nI pl) (hplr : pl < r) (hj : R 5 i pl = some j) (hjn : j < n) (hsu : sure I j = true) (hc : I 4 i 11 < I 4 j 9) : CT l D dA base yX3_goOnChecking cX3_goOnChecking 4 (some .int) 4 0 0 [.ref (ad 0 0), .ref (ad 4 i), .ref (ad 9 p0)] ad (Nn n) I J R (po (some (.int 5)) ad (Nn n) (swI I i) (up3 J 7 i 3 0) R) := by
  refine CT.of 1 (L0 := [some (.ref (ad 0 0)), some (.ref (ad 4 i)), some (.ref (ad 9 p0)), none]) (by decide +kernel) rfl (Nat.le_of_ble_eq_true rfl) ?_
  intro p e s m args below meth c C
  refine x_aload_n C dX3_goOnChecking_0 rfl ?_
  refine x_aload_n C dX3_goOnChecking_1 rfl ?_
  refine x_aload_n C dX3_goOnChecking_2 rfl ?_
  refine x_getF C hT f_X3_167 rfl rfl (by first | assumption | exact Nat.one_pos) dX3_goOnChecking_3 ?_
  refine x_getI C f_X3_181 rfl (by first | assumption | exact Nat.one_pos) dX3_goOnChecking_6 ?_
  rw [hk]
  refine x_cV1 C yo_X0_askedPlace m_X3_142 rfl rfl (by first | assumption | exact Nat.one_pos) (c_X0_askedPlace_in l D dA base n ad I J R hT i k a hi ha hka ha8) dX3_goOnChecking_9 rfl rfl (Nat.le_of_ble_eq_true rfl) ⟨by decide, by decide⟩ ⟨by decide, by decide⟩ ?_
  rw [hpl]
  refine x_cV1 C yo_X0_rowKey m_X3_184 rfl rfl (by first | assumption | exact Nat.one_pos) (c_X0_rowKey_in l D dA base n ad I J R hT i pl r j hi hr hplr hr8 hj) dX3_goOnChecking_12 rfl rfl (Nat.le_of_ble_eq_true rfl) ⟨by decide, by decide⟩ ⟨by decide, by decide⟩ ?_
  refine x_astore_n C dX3_goOnChecking_15 (by decide) rfl rfl ?_
  refine x_aload_n C dX3_goOnChecking_16 rfl ?_
  refine x_ifnonnull C 38 dX3_goOnChecking_17 (by decide) ?_
  refine x_aload_n C dX3_goOnChecking_38 rfl ?_
  refine x_aload_n C dX3_goOnChecking_39 rfl ?_
  refine x_cV1 C yo_X3_isSure m_X3_100 rfl rfl (by first | assumption | exact Nat.one_pos) (c_X3_isSure l D dA base n ad I J R hT j hjn) dX3_goOnChecking_40 rfl rfl (Nat.le_of_ble_eq_true rfl) ⟨by decide, by decide⟩ ⟨by decide, by decide⟩ ?_
  refine x_if_ne C 52 dX3_goOnChecking_43 (by decide) (fun h43 => ?_) (fun h43 => ?_)
  · skip
    refine x_aload_n C dX3_goOnChecking_52 rfl ?_
    refine x_getI C f_X3_45 rfl (by first | assumption | exact Nat.one_pos) dX3_goOnChecking_53 ?_
    refine x_aload_n C dX3_goOnChecking_56 rfl ?_
    refine x_getI C f_X3_149 rfl (by first | assumption | exact Nat.one_pos) dX3_goOnChecking_57 ?_
    refine x_icmp_le C 73 dX3_goOnChecking_60 (by decide) (fun h60 => ?_) (fun h60 => ?_)
    · skip
      exact absurd hc (Int32.not_lt.mpr h60)
    · skip
      refine x_aload_n C dX3_goOnChecking_63 rfl ?_
      refine x_getF C hT f_X3_167 rfl rfl (by first | assumption | exact Nat.one_pos) dX3_goOnChecking_64 ?_
      refine x_aload_n C dX3_goOnChecking_67 rfl ?_
      refine x_cV0 C yo_X2_startWorking m_X3_194 rfl rfl (by first | assumption | exact Nat.one_pos) (c_X2_startWorking l D dA base n ad I J R hT i hi) dX3_goOnChecking_68 rfl rfl (Nat.le_of_ble_eq_true rfl) ⟨by decide, by decide⟩ ⟨by decide, by decide⟩ ?_
      refine x_iconst C 5 (by decide) dX3_goOnChecking_71 ?_
      exact x_iret C (po_i _ _ _ _ _ _) dX3_goOnChecking_72
  · skip
    rw [hsu] at h43
    exact absurd h43 (by decide)

set_option maxRecDepth 100000 in
set_option maxHeartbeats 4000000 in
theorem c_chk_pass (l : Launch) (D : va_G) (dA : Nat → ClassId) (base n : Nat) (ad : Fa) (I : Fi) (J : Fj) (R : Fr) (hT : ST n R) (i p0 z : Nat) (hi : i < n) (hp : p0 < 5) (hs : I 9 p0 1 = nI (z + 1)) (hz : z < 40) (ht : R 10 p0 z = some i) (k a r : Nat) (hk : I 7 i 1 = nI k) (ha : I 4 i 13 = nI a) (ha8 : a ≤ 8) (hr : I 4 i 3 = nI r) (hr8 : r ≤ 8) (pl j : Nat) (hka : k < a) (hpl : I 6 i k = nI pl) (hplr : pl < r) (hj : R 5 i pl = some j) (hjn : j < n) (hsu : sure I j = true) (hc : ¬ I 4 i 11 < I 4 j 9) : CT l D dA base yX3_goOnChecking cX3_goOnChecking 4 (some .int) 4 0 0 [.ref (ad 0 0), .ref (ad 4 i), .ref (ad 9 p0)] ad (Nn n) I J R (po (some (.int 4)) ad (Nn n) (up3 I 7 i 1 (nI (k + 1))) J R) := by
  refine CT.of 1 (L0 := [some (.ref (ad 0 0)), some (.ref (ad 4 i)), some (.ref (ad 9 p0)), none]) (by decide +kernel) rfl (Nat.le_of_ble_eq_true rfl) ?_
  intro p e s m args below meth c C
  refine x_aload_n C dX3_goOnChecking_0 rfl ?_
  refine x_aload_n C dX3_goOnChecking_1 rfl ?_
  refine x_aload_n C dX3_goOnChecking_2 rfl ?_
  refine x_getF C hT f_X3_167 rfl rfl (by first | assumption | exact Nat.one_pos) dX3_goOnChecking_3 ?_
  refine x_getI C f_X3_181 rfl (by first | assumption | exact Nat.one_pos) dX3_goOnChecking_6 ?_
  rw [hk]
  refine x_cV1 C yo_X0_askedPlace m_X3_142 rfl rfl (by first | assumption | exact Nat.one_pos) (c_X0_askedPlace_in l D dA base n ad I J R hT i k a hi ha hka ha8) dX3_goOnChecking_9 rfl rfl (Nat.le_of_ble_eq_true rfl) ⟨by decide, by decide⟩ ⟨by decide, by decide⟩ ?_
  rw [hpl]
  refine x_cV1 C yo_X0_rowKey m_X3_184 rfl rfl (by first | assumption | exact Nat.one_pos) (c_X0_rowKey_in l D dA base n ad I J R hT i pl r j hi hr hplr hr8 hj) dX3_goOnChecking_12 rfl rfl (Nat.le_of_ble_eq_true rfl) ⟨by decide, by decide⟩ ⟨by decide, by decide⟩ ?_
  refine x_astore_n C dX3_goOnChecking_15 (by decide) rfl rfl ?_
  refine x_aload_n C dX3_goOnChecking_16 rfl ?_
  refine x_ifnonnull C 38 dX3_goOnChecking_17 (by decide) ?_
  refine x_aload_n C dX3_goOnChecking_38 rfl ?_
  refine x_aload_n C dX3_goOnChecking_39 rfl ?_
  refine x_cV1 C yo_X3_isSure m_X3_100 rfl rfl (by first | assumption | exact Nat.one_pos) (c_X3_isSure l D dA base n ad I J R hT j hjn) dX3_goOnChecking_40 rfl rfl (Nat.le_of_ble_eq_true rfl) ⟨by decide, by decide⟩ ⟨by decide, by decide⟩ ?_
  refine x_if_ne C 52 dX3_goOnChecking_43 (by decide) (fun h43 => ?_) (fun h43 => ?_)
  · skip
    refine x_aload_n C dX3_goOnChecking_52 rfl ?_
    refine x_getI C f_X3_45 rfl (by first | assumption | exact Nat.one_pos) dX3_goOnChecking_53 ?_
    refine x_aload_n C dX3_goOnChecking_56 rfl ?_
    refine x_getI C f_X3_149 rfl (by first | assumption | exact Nat.one_pos) dX3_goOnChecking_57 ?_
    refine x_icmp_le C 73 dX3_goOnChecking_60 (by decide) (fun h60 => ?_) (fun h60 => ?_)
    · skip
      refine x_aload_n C dX3_goOnChecking_73 rfl ?_
      refine x_getF C hT f_X3_167 rfl rfl (by first | assumption | exact Nat.one_pos) dX3_goOnChecking_74 ?_
      refine x_dup C rfl dX3_goOnChecking_77 ?_
      refine x_getI C f_X3_181 rfl (by first | assumption | exact Nat.one_pos) dX3_goOnChecking_78 ?_
      refine x_iconst C 1 (by decide) dX3_goOnChecking_81 ?_
      refine x_iadd C dX3_goOnChecking_82 ?_
      refine x_putI C g_X3_181 rfl (by first | assumption | exact Nat.one_pos) dX3_goOnChecking_83 ?_
      refine x_iconst C 4 (by decide) dX3_goOnChecking_86 ?_
      exact x_iret C (⟨rfl, rfl, rfl, by rw [hk, nI_1], rfl, rfl⟩) dX3_goOnChecking_87
    · skip
      exact absurd (Int32.not_lt.mp hc) h60
  · skip
    rw [hsu] at h43
    exact absurd h43 (by decide)

/-! a work goes on -/
set_option maxRecDepth 100000 in
set_option maxHeartbeats 4000000 in
theorem c_wrk_v (l : Launch) (D : va_G) (dA : Nat → ClassId) (base n : Nat) (ad : Fa) (I : Fi) (J : Fj) (R : Fr) (hT : ST n R) (i p0 z : Nat) (hi : i < n) (hp : p0 < 5) (hs : I 9 p0 1 = nI (z + 1)) (hz : z < 40) (ht : R 10 p0 z = some i) (f k r : Nat) (hf : I 4 i 1 = nI f) (hf6 : f < 6) (hk : I 7 i 1 = nI k) (hk8 : k ≤ 8) (hr : I 4 i 3 = nI r) (hr8 : r ≤ 8) (hx : npl (I 7 i 4) f k r (J 7 i 3) = -1) (hfl : I 7 i 4 = 0) : CT l D dA base yX3_goOnWorking cX3_goOnWorking 5 (some .int) 4 0 0 [.ref (ad 0 0), .ref (ad 4 i), .ref (ad 9 p0)] ad (Nn n) I J R (po (some (.int 2)) ad (Nn n) (ewI I J i p0 z k 1 (rsl f (J 7 i 3))) (up3 J 4 i 8 (rsl f (J 7 i 3))) R) := by
  refine CT.of 2 (L0 := [some (.ref (ad 0 0)), some (.ref (ad 4 i)), some (.ref (ad 9 p0)), none, none]) (by decide +kernel) rfl (Nat.le_of_ble_eq_true rfl) ?_
  intro p e s m args below meth c C
  refine x_aload_n C dX3_goOnWorking_0 rfl ?_
  refine x_getF C hT f_X3_167 rfl rfl (by first | assumption | exact Nat.one_pos) dX3_goOnWorking_1 ?_
  refine x_aload_n C dX3_goOnWorking_4 rfl ?_
  refine x_cV1 C yo_X2_nextPlace m_X3_197 rfl rfl (by first | assumption | exact Nat.one_pos) (c_X2_nextPlace l D dA base n ad I J R hT i f k r hi hf hf6 hk hk8 hr hr8) dX3_goOnWorking_5 rfl rfl (Nat.le_of_ble_eq_true rfl) ⟨by decide, by decide⟩ ⟨by decide, by decide⟩ ?_
  refine x_istore_n C dX3_goOnWorking_8 (by decide) rfl rfl ?_
  refine x_aload_n C dX3_goOnWorking_9 rfl ?_
  refine x_iload_n C dX3_goOnWorking_10 rfl ?_
  refine x_cV1 C yo_X0_rowKey m_X3_184 rfl rfl (by first | assumption | exact Nat.one_pos) (c_X0_rowKey_out l D dA base n ad I J R hT i r _ hi hr (Or.inl (by rw [hx]; decide))) dX3_goOnWorking_11 rfl rfl (Nat.le_of_ble_eq_true rfl) ⟨by decide, by decide⟩ ⟨by decide, by decide⟩ ?_
  refine x_astoreN C dX3_goOnWorking_14 (by decide) rfl rfl ?_
  refine x_aloadN C dX3_goOnWorking_16 rfl ?_
  refine x_ifnonnullN C dX3_goOnWorking_18 ?_
  refine x_aload_n C dX3_goOnWorking_21 rfl ?_
  refine x_aload_n C dX3_goOnWorking_22 rfl ?_
  refine x_aload_n C dX3_goOnWorking_23 rfl ?_
  refine x_aload_n C dX3_goOnWorking_24 rfl ?_
  refine x_getF C hT f_X3_167 rfl rfl (by first | assumption | exact Nat.one_pos) dX3_goOnWorking_25 ?_
  refine x_getI C f_X3_200 rfl (by first | assumption | exact Nat.one_pos) dX3_goOnWorking_28 ?_
  refine x_if_eq C 38 dX3_goOnWorking_31 (by decide) (fun h31 => ?_) (fun h31 => ?_)
  · skip
    refine x_iconst C 1 (by decide) dX3_goOnWorking_38 ?_
    refine x_cV0 C yo_X3_endWork m_X3_203 rfl rfl (by first | assumption | exact Nat.one_pos) (c_X3_endWork_v l D dA base n ad I J R hT i p0 z k f hi hp hs hz ht hk hk8 hf hf6) dX3_goOnWorking_39 rfl rfl (Nat.le_of_ble_eq_true rfl) ⟨by decide, by decide⟩ ⟨by decide, by decide⟩ ?_
    refine x_iconst C 2 (by decide) dX3_goOnWorking_42 ?_
    exact x_iret C (po_i _ _ _ _ _ _) dX3_goOnWorking_43
  · skip
    exact absurd hfl h31

set_option maxRecDepth 100000 in
set_option maxHeartbeats 4000000 in
theorem c_wrk_f (l : Launch) (D : va_G) (dA : Nat → ClassId) (base n : Nat) (ad : Fa) (I : Fi) (J : Fj) (R : Fr) (hT : ST n R) (i p0 z : Nat) (hi : i < n) (hp : p0 < 5) (hs : I 9 p0 1 = nI (z + 1)) (hz : z < 40) (ht : R 10 p0 z = some i) (f k r : Nat) (hf : I 4 i 1 = nI f) (hf6 : f < 6) (hk : I 7 i 1 = nI k) (hk8 : k ≤ 8) (hr : I 4 i 3 = nI r) (hr8 : r ≤ 8) (hx : npl (I 7 i 4) f k r (J 7 i 3) = -1) (hfl : ¬ I 7 i 4 = 0) : CT l D dA base yX3_goOnWorking cX3_goOnWorking 5 (some .int) 4 0 0 [.ref (ad 0 0), .ref (ad 4 i), .ref (ad 9 p0)] ad (Nn n) I J R (po (some (.int 2)) ad (Nn n) (ewI I J i p0 z k 2 0) (up3 J 4 i 8 0) R) := by
  refine CT.of 2 (L0 := [some (.ref (ad 0 0)), some (.ref (ad 4 i)), some (.ref (ad 9 p0)), none, none]) (by decide +kernel) rfl (Nat.le_of_ble_eq_true rfl) ?_
  intro p e s m args below meth c C
  refine x_aload_n C dX3_goOnWorking_0 rfl ?_
  refine x_getF C hT f_X3_167 rfl rfl (by first | assumption | exact Nat.one_pos) dX3_goOnWorking_1 ?_
  refine x_aload_n C dX3_goOnWorking_4 rfl ?_
  refine x_cV1 C yo_X2_nextPlace m_X3_197 rfl rfl (by first | assumption | exact Nat.one_pos) (c_X2_nextPlace l D dA base n ad I J R hT i f k r hi hf hf6 hk hk8 hr hr8) dX3_goOnWorking_5 rfl rfl (Nat.le_of_ble_eq_true rfl) ⟨by decide, by decide⟩ ⟨by decide, by decide⟩ ?_
  refine x_istore_n C dX3_goOnWorking_8 (by decide) rfl rfl ?_
  refine x_aload_n C dX3_goOnWorking_9 rfl ?_
  refine x_iload_n C dX3_goOnWorking_10 rfl ?_
  refine x_cV1 C yo_X0_rowKey m_X3_184 rfl rfl (by first | assumption | exact Nat.one_pos) (c_X0_rowKey_out l D dA base n ad I J R hT i r _ hi hr (Or.inl (by rw [hx]; decide))) dX3_goOnWorking_11 rfl rfl (Nat.le_of_ble_eq_true rfl) ⟨by decide, by decide⟩ ⟨by decide, by decide⟩ ?_
  refine x_astoreN C dX3_goOnWorking_14 (by decide) rfl rfl ?_
  refine x_aloadN C dX3_goOnWorking_16 rfl ?_
  refine x_ifnonnullN C dX3_goOnWorking_18 ?_
  refine x_aload_n C dX3_goOnWorking_21 rfl ?_
  refine x_aload_n C dX3_goOnWorking_22 rfl ?_
  refine x_aload_n C dX3_goOnWorking_23 rfl ?_
  refine x_aload_n C dX3_goOnWorking_24 rfl ?_
  refine x_getF C hT f_X3_167 rfl rfl (by first | assumption | exact Nat.one_pos) dX3_goOnWorking_25 ?_
  refine x_getI C f_X3_200 rfl (by first | assumption | exact Nat.one_pos) dX3_goOnWorking_28 ?_
  refine x_if_eq C 38 dX3_goOnWorking_31 (by decide) (fun h31 => ?_) (fun h31 => ?_)
  · skip
    exact absurd h31 hfl
  · skip
    refine x_iconst C 2 (by decide) dX3_goOnWorking_34 ?_
    refine x_goto C 39 dX3_goOnWorking_35 (by decide) ?_
    refine x_cV0 C yo_X3_endWork m_X3_203 rfl rfl (by first | assumption | exact Nat.one_pos) (c_X3_endWork_f l D dA base n ad I J R hT i p0 z k f hi hp hs hz ht hk hk8 hf hf6 2 (by decide)) dX3_goOnWorking_39 rfl rfl (Nat.le_of_ble_eq_true rfl) ⟨by decide, by decide⟩ ⟨by decide, by decide⟩ ?_
    refine x_iconst C 2 (by decide) dX3_goOnWorking_42 ?_
    exact x_iret C (po_i _ _ _ _ _ _) dX3_goOnWorking_43

set_option maxRecDepth 100000 in
set_option maxHeartbeats 4000000 in
theorem c_wrk_wait (l : Launch) (D : va_G) (dA : Nat → ClassId) (base n : Nat) (ad : Fa) (I : Fi) (J : Fj) (R : Fr) (hT : ST n R) (i p0 z : Nat) (hi : i < n) (hp : p0 < 5) (hs : I 9 p0 1 = nI (z + 1)) (hz : z < 40) (ht : R 10 p0 z = some i) (f k r : Nat) (hf : I 4 i 1 = nI f) (hf6 : f < 6) (hk : I 7 i 1 = nI k) (hk8 : k ≤ 8) (hr : I 4 i 3 = nI r) (hr8 : r ≤ 8) (pl j : Nat) (hx : npl (I 7 i 4) f k r (J 7 i 3) = nI pl) (hplr : pl < r) (hj : R 5 i pl = some j) (hjn : j < n) (hsu : sure I j = false) (hq : ¬ I 4 j 16 = 0) : CT l D dA base yX3_goOnWorking cX3_goOnWorking 5 (some .int) 4 0 0 [.ref (ad 0 0), .ref (ad 4 i), .ref (ad 9 p0)] ad (Nn n) I J R (po (some (.int 3)) ad (Nn n) I J R) := by
  refine CT.of 2 (L0 := [some (.ref (ad 0 0)), some (.ref (ad 4 i)), some (.ref (ad 9 p0)), none, none]) (by decide +kernel) rfl (Nat.le_of_ble_eq_true rfl) ?_
  intro p e s m args below meth c C
  refine x_aload_n C dX3_goOnWorking_0 rfl ?_
  refine x_getF C hT f_X3_167 rfl rfl (by first | assumption | exact Nat.one_pos) dX3_goOnWorking_1 ?_
  refine x_aload_n C dX3_goOnWorking_4 rfl ?_
  refine x_cV1 C yo_X2_nextPlace m_X3_197 rfl rfl (by first | assumption | exact Nat.one_pos) (c_X2_nextPlace l D dA base n ad I J R hT i f k r hi hf hf6 hk hk8 hr hr8) dX3_goOnWorking_5 rfl rfl (Nat.le_of_ble_eq_true rfl) ⟨by decide, by decide⟩ ⟨by decide, by decide⟩ ?_
  rw [hx]
  refine x_istore_n C dX3_goOnWorking_8 (by decide) rfl rfl ?_
  refine x_aload_n C dX3_goOnWorking_9 rfl ?_
  refine x_iload_n C dX3_goOnWorking_10 rfl ?_
  refine x_cV1 C yo_X0_rowKey m_X3_184 rfl rfl (by first | assumption | exact Nat.one_pos) (c_X0_rowKey_in l D dA base n ad I J R hT i pl r j hi hr hplr hr8 hj) dX3_goOnWorking_11 rfl rfl (Nat.le_of_ble_eq_true rfl) ⟨by decide, by decide⟩ ⟨by decide, by decide⟩ ?_
  refine x_astore C dX3_goOnWorking_14 (by decide) rfl rfl ?_
  refine x_aload C dX3_goOnWorking_16 rfl ?_
  refine x_ifnonnull C 44 dX3_goOnWorking_18 (by decide) ?_
  refine x_aload_n C dX3_goOnWorking_44 rfl ?_
  refine x_aload C dX3_goOnWorking_45 rfl ?_
  refine x_cV1 C yo_X3_isSure m_X3_100 rfl rfl (by first | assumption | exact Nat.one_pos) (c_X3_isSure l D dA base n ad I J R hT j hjn) dX3_goOnWorking_47 rfl rfl (Nat.le_of_ble_eq_true rfl) ⟨by decide, by decide⟩ ⟨by decide, by decide⟩ ?_
  refine x_if_ne C 60 dX3_goOnWorking_50 (by decide) (fun h50 => ?_) (fun h50 => ?_)
  · skip
    rw [hsu] at h50
    exact absurd rfl h50
  · skip
    refine x_aload C dX3_goOnWorking_53 rfl ?_
    refine x_aload_n C dX3_goOnWorking_55 rfl ?_
    refine x_cS1 C yo_X3_findFirst rfl m_X3_191 (c_X3_findFirst_w l D dA base n ad I J R hT j p0 hjn hp hq) dX3_goOnWorking_56 rfl rfl (Nat.le_of_ble_eq_true rfl) ⟨by decide, by decide⟩ ⟨by decide, by decide⟩ ?_
    exact x_iret C (po_i _ _ _ _ _ _) dX3_goOnWorking_59

set_option maxRecDepth 100000 in
set_option maxHeartbeats 4000000 in
theorem c_wrk_put (l : Launch) (D : va_G) (dA : Nat → ClassId) (base n : Nat) (ad : Fa) (I : Fi) (J : Fj) (R : Fr) (hT : ST n R) (i p0 z : Nat) (hi : i < n) (hp : p0 < 5) (hs : I 9 p0 1 = nI (z + 1)) (hz : z < 40) (ht : R 10 p0 z = some i) (f k r : Nat) (hf : I 4 i 1 = nI f) (hf6 : f < 6) (hk : I 7 i 1 = nI k) (hk8 : k ≤ 8) (hr : I 4 i 3 = nI r) (hr8 : r ≤ 8) (pl j : Nat) (hx : npl (I 7 i 4) f k r (J 7 i 3) = nI pl) (hplr : pl < r) (hj : R 5 i pl = some j) (hjn : j < n) (hsu : sure I j = false) (hq : I 4 j 16 = 0) (hz2 : z + 1 < 40) : CT l D dA base yX3_goOnWorking cX3_goOnWorking 5 (some .int) 4 0 0 [.ref (ad 0 0), .ref (ad 4 i), .ref (ad 9 p0)] ad (Nn n) I J R (po (some (.int 1)) ad (Nn n) (putI I p0 j (z + 1)) (up3 J 7 j 3 0) (up3 R 10 p0 (z + 1) (some j))) := by
  refine CT.of 2 (L0 := [some (.ref (ad 0 0)), some (.ref (ad 4 i)), some (.ref (ad 9 p0)), none, none]) (by decide +kernel) rfl (Nat.le_of_ble_eq_true rfl) ?_
  intro p e s m args below meth c C
  refine x_aload_n C dX3_goOnWorking_0 rfl ?_
  refine x_getF C hT f_X3_167 rfl rfl (by first | assumption | exact Nat.one_pos) dX3_goOnWorking_1 ?_
  refine x_aload_n C dX3_goOnWorking_4 rfl ?_
  refine x_cV1 C yo_X2_nextPlace m_X3_197 rfl rfl (by first | assumption | exact Nat.one_pos) (c_X2_nextPlace l D dA base n ad I J R hT i f k r hi hf hf6 hk hk8 hr hr8) dX3_goOnWorking_5 rfl rfl (Nat.le_of_ble_eq_true rfl) ⟨by decide, by decide⟩ ⟨by decide, by decide⟩ ?_
  rw [hx]
  refine x_istore_n C dX3_goOnWorking_8 (by decide) rfl rfl ?_
  refine x_aload_n C dX3_goOnWorking_9 rfl ?_
  refine x_iload_n C dX3_goOnWorking_10 rfl ?_
  refine x_cV1 C yo_X0_rowKey m_X3_184 rfl rfl (by first | assumption | exact Nat.one_pos) (c_X0_rowKey_in l D dA base n ad I J R hT i pl r j hi hr hplr hr8 hj) dX3_goOnWorking_11 rfl rfl (Nat.le_of_ble_eq_true rfl) ⟨by decide, by decide⟩ ⟨by decide, by decide⟩ ?_
  refine x_astore C dX3_goOnWorking_14 (by decide) rfl rfl ?_
  refine x_aload C dX3_goOnWorking_16 rfl ?_
  refine x_ifnonnull C 44 dX3_goOnWorking_18 (by decide) ?_
  refine x_aload_n C dX3_goOnWorking_44 rfl ?_
  refine x_aload C dX3_goOnWorking_45 rfl ?_
  refine x_cV1 C yo_X3_isSure m_X3_100 rfl rfl (by first | assumption | exact Nat.one_pos) (c_X3_isSure l D dA base n ad I J R hT j hjn) dX3_goOnWorking_47 rfl rfl (Nat.le_of_ble_eq_true rfl) ⟨by decide, by decide⟩ ⟨by decide, by decide⟩ ?_
  refine x_if_ne C 60 dX3_goOnWorking_50 (by decide) (fun h50 => ?_) (fun h50 => ?_)
  · skip
    rw [hsu] at h50
    exact absurd rfl h50
  · skip
    refine x_aload C dX3_goOnWorking_53 rfl ?_
    refine x_aload_n C dX3_goOnWorking_55 rfl ?_
    refine x_cS1 C yo_X3_findFirst rfl m_X3_191 (c_X3_findFirst_p l D dA base n ad I J R hT j p0 (z + 1) hjn hp hq hs hz2) dX3_goOnWorking_56 rfl rfl (Nat.le_of_ble_eq_true rfl) ⟨by decide, by decide⟩ ⟨by decide, by decide⟩ ?_
    exact x_iret C (po_i _ _ _ _ _ _) dX3_goOnWorking_59

set_option maxRecDepth 100000 in
set_option maxHeartbeats 4000000 in
theorem c_wrk_by (l : Launch) (D : va_G) (dA : Nat → ClassId) (base n : Nat) (ad : Fa) (I : Fi) (J : Fj) (R : Fr) (hT : ST n R) (i p0 z : Nat) (hi : i < n) (hp : p0 < 5) (hs : I 9 p0 1 = nI (z + 1)) (hz : z < 40) (ht : R 10 p0 z = some i) (f k r : Nat) (hf : I 4 i 1 = nI f) (hf6 : f < 6) (hk : I 7 i 1 = nI k) (hk8 : k ≤ 8) (hr : I 4 i 3 = nI r) (hr8 : r ≤ 8) (pl j : Nat) (hx : npl (I 7 i 4) f k r (J 7 i 3) = nI pl) (hplr : pl < r) (hj : R 5 i pl = some j) (hjn : j < n) (hk7 : k < 8) (hsu : sure I j = true) (hh : ¬ I 4 j 7 = 1) : CT l D dA base yX3_goOnWorking cX3_goOnWorking 5 (some .int) 4 0 0 [.ref (ad 0 0), .ref (ad 4 i), .ref (ad 9 p0)] ad (Nn n) I J R (po (some (.int 2)) ad (Nn n) (ewI (up3 (up3 I 8 i k (nI pl)) 7 i 1 (nI (k + 1))) J i p0 z (k + 1) 3 0) (up3 J 4 i 8 0) R) := by
  refine CT.of 2 (L0 := [some (.ref (ad 0 0)), some (.ref (ad 4 i)), some (.ref (ad 9 p0)), none, none]) (by decide +kernel) rfl (Nat.le_of_ble_eq_true rfl) ?_
  intro p e s m args below meth c C
  refine x_aload_n C dX3_goOnWorking_0 rfl ?_
  refine x_getF C hT f_X3_167 rfl rfl (by first | assumption | exact Nat.one_pos) dX3_goOnWorking_1 ?_
  refine x_aload_n C dX3_goOnWorking_4 rfl ?_
  refine x_cV1 C yo_X2_nextPlace m_X3_197 rfl rfl (by first | assumption | exact Nat.one_pos) (c_X2_nextPlace l D dA base n ad I J R hT i f k r hi hf hf6 hk hk8 hr hr8) dX3_goOnWorking_5 rfl rfl (Nat.le_of_ble_eq_true rfl) ⟨by decide, by decide⟩ ⟨by decide, by decide⟩ ?_
  rw [hx]
  refine x_istore_n C dX3_goOnWorking_8 (by decide) rfl rfl ?_
  refine x_aload_n C dX3_goOnWorking_9 rfl ?_
  refine x_iload_n C dX3_goOnWorking_10 rfl ?_
  refine x_cV1 C yo_X0_rowKey m_X3_184 rfl rfl (by first | assumption | exact Nat.one_pos) (c_X0_rowKey_in l D dA base n ad I J R hT i pl r j hi hr hplr hr8 hj) dX3_goOnWorking_11 rfl rfl (Nat.le_of_ble_eq_true rfl) ⟨by decide, by decide⟩ ⟨by decide, by decide⟩ ?_
  refine x_astore C dX3_goOnWorking_14 (by decide) rfl rfl ?_
  refine x_aload C dX3_goOnWorking_16 rfl ?_
  refine x_ifnonnull C 44 dX3_goOnWorking_18 (by decide) ?_
  refine x_aload_n C dX3_goOnWorking_44 rfl ?_
  refine x_aload C dX3_goOnWorking_45 rfl ?_
  refine x_cV1 C yo_X3_isSure m_X3_100 rfl rfl (by first | assumption | exact Nat.one_pos) (c_X3_isSure l D dA base n ad I J R hT j hjn) dX3_goOnWorking_47 rfl rfl (Nat.le_of_ble_eq_true rfl) ⟨by decide, by decide⟩ ⟨by decide, by decide⟩ ?_
  refine x_if_ne C 60 dX3_goOnWorking_50 (by decide) (fun h50 => ?_) (fun h50 => ?_)
  · skip
    refine x_aload C dX3_goOnWorking_60 rfl ?_
    refine x_getI C f_X3_35 rfl (by first | assumption | exact Nat.one_pos) dX3_goOnWorking_62 ?_
    refine x_iconst C 1 (by decide) dX3_goOnWorking_65 ?_
    refine x_icmp_eq C 86 dX3_goOnWorking_66 (by decide) (fun h66 => ?_) (fun h66 => ?_)
    · skip
      exact absurd h66 hh
    · skip
      refine x_aload_n C dX3_goOnWorking_69 rfl ?_
      refine x_getF C hT f_X3_167 rfl rfl (by first | assumption | exact Nat.one_pos) dX3_goOnWorking_70 ?_
      refine x_iload_n C dX3_goOnWorking_73 rfl ?_
      refine x_cV0 C yo_X2_notePlace m_X3_207 rfl rfl (by first | assumption | exact Nat.one_pos) (c_X2_notePlace l D dA base n ad I J R hT i k (nI pl) hi hk hk7) dX3_goOnWorking_74 rfl rfl (Nat.le_of_ble_eq_true rfl) ⟨by decide, by decide⟩ ⟨by decide, by decide⟩ ?_
      refine x_aload_n C dX3_goOnWorking_77 rfl ?_
      refine x_aload_n C dX3_goOnWorking_78 rfl ?_
      refine x_aload_n C dX3_goOnWorking_79 rfl ?_
      refine x_iconst C 3 (by decide) dX3_goOnWorking_80 ?_
      refine x_cV0 C yo_X3_endWork m_X3_203 rfl rfl (by first | assumption | exact Nat.one_pos) (c_X3_endWork_f l D dA base n ad (up3 (up3 I 8 i k (nI pl)) 7 i 1 (nI (k + 1))) J R hT i p0 z (k + 1) f hi hp (by simp [up3, hs]) hz ht (by rw [up3_s]) (by omega) (by simp [up3, hf]) hf6 3 (by decide)) dX3_goOnWorking_81 rfl rfl (Nat.le_of_ble_eq_true rfl) ⟨by decide, by decide⟩ ⟨by decide, by decide⟩ ?_
      refine x_iconst C 2 (by decide) dX3_goOnWorking_84 ?_
      exact x_iret C (po_i _ _ _ _ _ _) dX3_goOnWorking_85
  · skip
    rw [hsu] at h50
    exact absurd h50 (by decide)

set_option maxRecDepth 100000 in
set_option maxHeartbeats 4000000 in
theorem c_wrk_take (l : Launch) (D : va_G) (dA : Nat → ClassId) (base n : Nat) (ad : Fa) (I : Fi) (J : Fj) (R : Fr) (hT : ST n R) (i p0 z : Nat) (hi : i < n) (hp : p0 < 5) (hs : I 9 p0 1 = nI (z + 1)) (hz : z < 40) (ht : R 10 p0 z = some i) (f k r : Nat) (hf : I 4 i 1 = nI f) (hf6 : f < 6) (hk : I 7 i 1 = nI k) (hk8 : k ≤ 8) (hr : I 4 i 3 = nI r) (hr8 : r ≤ 8) (pl j : Nat) (hx : npl (I 7 i 4) f k r (J 7 i 3) = nI pl) (hplr : pl < r) (hj : R 5 i pl = some j) (hjn : j < n) (hk7 : k < 8) (hsu : sure I j = true) (hh : I 4 j 7 = 1) : CT l D dA base yX3_goOnWorking cX3_goOnWorking 5 (some .int) 4 0 0 [.ref (ad 0 0), .ref (ad 4 i), .ref (ad 9 p0)] ad (Nn n) I J R (po (some (.int 6)) ad (Nn n) (up3 (up3 (up3 I 7 i 4 (tkF f k (I 7 i 4) (J 4 j 8))) 8 i k (nI pl)) 7 i 1 (nI (k + 1))) (up3 J 7 i 3 (tkG f k (J 7 i 3) (J 4 j 8))) R) := by
  refine CT.of 2 (L0 := [some (.ref (ad 0 0)), some (.ref (ad 4 i)), some (.ref (ad 9 p0)), none, none]) (by decide +kernel) rfl (Nat.le_of_ble_eq_true rfl) ?_
  intro p e s m args below meth c C
  refine x_aload_n C dX3_goOnWorking_0 rfl ?_
  refine x_getF C hT f_X3_167 rfl rfl (by first | assumption | exact Nat.one_pos) dX3_goOnWorking_1 ?_
  refine x_aload_n C dX3_goOnWorking_4 rfl ?_
  refine x_cV1 C yo_X2_nextPlace m_X3_197 rfl rfl (by first | assumption | exact Nat.one_pos) (c_X2_nextPlace l D dA base n ad I J R hT i f k r hi hf hf6 hk hk8 hr hr8) dX3_goOnWorking_5 rfl rfl (Nat.le_of_ble_eq_true rfl) ⟨by decide, by decide⟩ ⟨by decide, by decide⟩ ?_
  rw [hx]
  refine x_istore_n C dX3_goOnWorking_8 (by decide) rfl rfl ?_
  refine x_aload_n C dX3_goOnWorking_9 rfl ?_
  refine x_iload_n C dX3_goOnWorking_10 rfl ?_
  refine x_cV1 C yo_X0_rowKey m_X3_184 rfl rfl (by first | assumption | exact Nat.one_pos) (c_X0_rowKey_in l D dA base n ad I J R hT i pl r j hi hr hplr hr8 hj) dX3_goOnWorking_11 rfl rfl (Nat.le_of_ble_eq_true rfl) ⟨by decide, by decide⟩ ⟨by decide, by decide⟩ ?_
  refine x_astore C dX3_goOnWorking_14 (by decide) rfl rfl ?_
  refine x_aload C dX3_goOnWorking_16 rfl ?_
  refine x_ifnonnull C 44 dX3_goOnWorking_18 (by decide) ?_
  refine x_aload_n C dX3_goOnWorking_44 rfl ?_
  refine x_aload C dX3_goOnWorking_45 rfl ?_
  refine x_cV1 C yo_X3_isSure m_X3_100 rfl rfl (by first | assumption | exact Nat.one_pos) (c_X3_isSure l D dA base n ad I J R hT j hjn) dX3_goOnWorking_47 rfl rfl (Nat.le_of_ble_eq_true rfl) ⟨by decide, by decide⟩ ⟨by decide, by decide⟩ ?_
  refine x_if_ne C 60 dX3_goOnWorking_50 (by decide) (fun h50 => ?_) (fun h50 => ?_)
  · skip
    refine x_aload C dX3_goOnWorking_60 rfl ?_
    refine x_getI C f_X3_35 rfl (by first | assumption | exact Nat.one_pos) dX3_goOnWorking_62 ?_
    refine x_iconst C 1 (by decide) dX3_goOnWorking_65 ?_
    refine x_icmp_eq C 86 dX3_goOnWorking_66 (by decide) (fun h66 => ?_) (fun h66 => ?_)
    · skip
      refine x_aload_n C dX3_goOnWorking_86 rfl ?_
      refine x_getF C hT f_X3_167 rfl rfl (by first | assumption | exact Nat.one_pos) dX3_goOnWorking_87 ?_
      refine x_aload_n C dX3_goOnWorking_90 rfl ?_
      refine x_aload C dX3_goOnWorking_91 rfl ?_
      refine x_getJ C f_X3_38 rfl (by first | assumption | exact Nat.one_pos) dX3_goOnWorking_93 ?_
      refine x_cV0 C yo_X2_take m_X3_211 rfl rfl (by first | assumption | exact Nat.one_pos) (c_X2_take l D dA base n ad I J R hT i f k (J 4 j 8) hi hf hf6 hk hk8) dX3_goOnWorking_96 rfl rfl (Nat.le_of_ble_eq_true rfl) ⟨by decide, by decide⟩ ⟨by decide, by decide⟩ ?_
      refine x_aload_n C dX3_goOnWorking_99 rfl ?_
      refine x_getF C hT f_X3_167 rfl rfl (by first | assumption | exact Nat.one_pos) dX3_goOnWorking_100 ?_
      refine x_iload_n C dX3_goOnWorking_103 rfl ?_
      refine x_cV0 C yo_X2_notePlace m_X3_207 rfl rfl (by first | assumption | exact Nat.one_pos) (c_X2_notePlace l D dA base n ad (up3 I 7 i 4 (tkF f k (I 7 i 4) (J 4 j 8))) (up3 J 7 i 3 (tkG f k (J 7 i 3) (J 4 j 8))) R hT i k (nI pl) hi (by rw [up3_k _ _ _ _ _ (by decide)]; exact hk) hk7) dX3_goOnWorking_104 rfl rfl (Nat.le_of_ble_eq_true rfl) ⟨by decide, by decide⟩ ⟨by decide, by decide⟩ ?_
      refine x_bipush C 6 (by decide) dX3_goOnWorking_107 ?_
      exact x_iret C (po_i _ _ _ _ _ _) dX3_goOnWorking_109
    · skip
      exact absurd hh h66
  · skip
    rw [hsu] at h50
    exact absurd h50 (by decide)

/-! a step of a pile -/
set_option maxRecDepth 100000 in
set_option maxHeartbeats 4000000 in
theorem c_goOn_0 (l : Launch) (D : va_G) (dA : Nat → ClassId) (base n : Nat) (ad : Fa) (I : Fi) (J : Fj) (R : Fr) (hT : ST n R) (p0 : Nat) (hp : p0 < 5) (hs : I 9 p0 1 = nI 0) : CT l D dA base yX3_goOn cX3_goOn 3 (some .int) 5 0 0 [.ref (ad 0 0), .ref (ad 9 p0)] ad (Nn n) I J R (po (some (.int 0)) ad (Nn n) I J R) := by
  refine CT.of 1 (L0 := [some (.ref (ad 0 0)), some (.ref (ad 9 p0)), none]) (by decide +kernel) rfl (Nat.le_of_ble_eq_true rfl) ?_
  intro p e s m args below meth c C
  refine x_aload_n C dX3_goOn_0 rfl ?_
  refine x_cV1 C yo_X1_topmost m_X3_163 rfl rfl (by first | assumption | exact Nat.one_pos) (c_X1_topmost_0 l D dA base n ad I J R hT p0 hp hs) dX3_goOn_1 rfl rfl (Nat.le_of_ble_eq_true rfl) ⟨by decide, by decide⟩ ⟨by decide, by decide⟩ ?_
  refine x_astore_nN C dX3_goOn_4 (by decide) rfl rfl ?_
  refine x_aload_nN C dX3_goOn_5 rfl ?_
  refine x_ifnonnullN C dX3_goOn_6 ?_
  refine x_iconst C 0 (by decide) dX3_goOn_9 ?_
  exact x_iret C (po_i _ _ _ _ _ _) dX3_goOn_10

set_option maxRecDepth 100000 in
set_option maxHeartbeats 4000000 in
theorem c_goOn_c (l : Launch) (D : va_G) (dA : Nat → ClassId) (base n : Nat) (ad : Fa) (I : Fi) (J : Fj) (R : Fr) (hT : ST n R) (i p0 z : Nat) (hi : i < n) (hp : p0 < 5) (hs : I 9 p0 1 = nI (z + 1)) (hz : z < 40) (ht : R 10 p0 z = some i) (hc : ¬ I 7 i 0 = 0) (x : Int32) (I1 : Fi) (J1 : Fj) (R1 : Fr) (hM : CT l D dA base yX3_goOnChecking cX3_goOnChecking 4 (some .int) 4 0 0 [.ref (ad 0 0), .ref (ad 4 i), .ref (ad 9 p0)] ad (Nn n) I J R (po (some (.int x)) ad (Nn n) I1 J1 R1)) : CT l D dA base yX3_goOn cX3_goOn 3 (some .int) 5 0 0 [.ref (ad 0 0), .ref (ad 9 p0)] ad (Nn n) I J R (po (some (.int x)) ad (Nn n) I1 J1 R1) := by
  refine CT.of 1 (L0 := [some (.ref (ad 0 0)), some (.ref (ad 9 p0)), none]) (by decide +kernel) rfl (Nat.le_of_ble_eq_true rfl) ?_
  intro p e s m args below meth c C
  refine x_aload_n C dX3_goOn_0 rfl ?_
  refine x_cV1 C yo_X1_topmost m_X3_163 rfl rfl (by first | assumption | exact Nat.one_pos) (c_X1_topmost_s l D dA base n ad I J R hT p0 z i hp hs hz ht) dX3_goOn_1 rfl rfl (Nat.le_of_ble_eq_true rfl) ⟨by decide, by decide⟩ ⟨by decide, by decide⟩ ?_
  refine x_astore_n C dX3_goOn_4 (by decide) rfl rfl ?_
  refine x_aload_n C dX3_goOn_5 rfl ?_
  refine x_ifnonnull C 11 dX3_goOn_6 (by decide) ?_
  refine x_aload_n C dX3_goOn_11 rfl ?_
  refine x_getF C hT f_X3_167 rfl rfl (by first | assumption | exact Nat.one_pos) dX3_goOn_12 ?_
  refine x_getI C f_X3_171 rfl (by first | assumption | exact Nat.one_pos) dX3_goOn_15 ?_
  refine x_if_eq C 30 dX3_goOn_18 (by decide) (fun h18 => ?_) (fun h18 => ?_)
  · skip
    exact absurd h18 hc
  · skip
    refine x_aload_n C dX3_goOn_21 rfl ?_
    refine x_aload_n C dX3_goOn_22 rfl ?_
    refine x_aload_n C dX3_goOn_23 rfl ?_
    refine x_cV1 C yo_X3_goOnChecking m_X3_174 rfl rfl (by first | assumption | exact Nat.one_pos) (hM) dX3_goOn_24 rfl rfl (Nat.le_of_ble_eq_true rfl) ⟨by decide, by decide⟩ ⟨by decide, by decide⟩ ?_
    refine x_goto C 36 dX3_goOn_27 (by decide) ?_
    exact x_iret C (po_i _ _ _ _ _ _) dX3_goOn_36

set_option maxRecDepth 100000 in
set_option maxHeartbeats 4000000 in
theorem c_goOn_w (l : Launch) (D : va_G) (dA : Nat → ClassId) (base n : Nat) (ad : Fa) (I : Fi) (J : Fj) (R : Fr) (hT : ST n R) (i p0 z : Nat) (hi : i < n) (hp : p0 < 5) (hs : I 9 p0 1 = nI (z + 1)) (hz : z < 40) (ht : R 10 p0 z = some i) (hc : I 7 i 0 = 0) (x : Int32) (I1 : Fi) (J1 : Fj) (R1 : Fr) (hM : CT l D dA base yX3_goOnWorking cX3_goOnWorking 5 (some .int) 4 0 0 [.ref (ad 0 0), .ref (ad 4 i), .ref (ad 9 p0)] ad (Nn n) I J R (po (some (.int x)) ad (Nn n) I1 J1 R1)) : CT l D dA base yX3_goOn cX3_goOn 3 (some .int) 5 0 0 [.ref (ad 0 0), .ref (ad 9 p0)] ad (Nn n) I J R (po (some (.int x)) ad (Nn n) I1 J1 R1) := by
  refine CT.of 1 (L0 := [some (.ref (ad 0 0)), some (.ref (ad 9 p0)), none]) (by decide +kernel) rfl (Nat.le_of_ble_eq_true rfl) ?_
  intro p e s m args below meth c C
  refine x_aload_n C dX3_goOn_0 rfl ?_
  refine x_cV1 C yo_X1_topmost m_X3_163 rfl rfl (by first | assumption | exact Nat.one_pos) (c_X1_topmost_s l D dA base n ad I J R hT p0 z i hp hs hz ht) dX3_goOn_1 rfl rfl (Nat.le_of_ble_eq_true rfl) ⟨by decide, by decide⟩ ⟨by decide, by decide⟩ ?_
  refine x_astore_n C dX3_goOn_4 (by decide) rfl rfl ?_
  refine x_aload_n C dX3_goOn_5 rfl ?_
  refine x_ifnonnull C 11 dX3_goOn_6 (by decide) ?_
  refine x_aload_n C dX3_goOn_11 rfl ?_
  refine x_getF C hT f_X3_167 rfl rfl (by first | assumption | exact Nat.one_pos) dX3_goOn_12 ?_
  refine x_getI C f_X3_171 rfl (by first | assumption | exact Nat.one_pos) dX3_goOn_15 ?_
  refine x_if_eq C 30 dX3_goOn_18 (by decide) (fun h18 => ?_) (fun h18 => ?_)
  · skip
    refine x_aload_n C dX3_goOn_30 rfl ?_
    refine x_aload_n C dX3_goOn_31 rfl ?_
    refine x_aload_n C dX3_goOn_32 rfl ?_
    refine x_cV1 C yo_X3_goOnWorking m_X3_178 rfl rfl (by first | assumption | exact Nat.one_pos) (hM) dX3_goOn_33 rfl rfl (Nat.le_of_ble_eq_true rfl) ⟨by decide, by decide⟩ ⟨by decide, by decide⟩ ?_
    exact x_iret C (po_i _ _ _ _ _ _) dX3_goOn_36
  · skip
    exact absurd hc h18

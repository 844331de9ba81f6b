/-! the reference: public methods -/
theorem HI.up {I : Fi} {zs : Nat → Nat} (h : HI I zs) {c i k : Nat} {v : Int32} (hc : ¬ c = 37) : HI (up3 I c i k v) zs := fun q hq => ⟨by rw [up3_c _ _ _ _ _ (Ne.symm hc)]; exact (h q hq).1, (h q hq).2⟩
theorem HI.upJ {I : Fi} {zs : Nat → Nat} (h : HI I zs) : HI I zs := h
set_option maxRecDepth 100000 in
set_option maxHeartbeats 4000000 in
theorem c_X4_worked_in (l : Launch) (D : va_G) (dA : Nat → ClassId) (base n : Nat) (ad : Fa) (I : Fi) (J : Fj) (R : Fr) (hT : ST n R) (hM : MG n I) (k : Nat) (hk : k < n)  : CT l D dA base yX4_worked cX4_worked 2 (some .int) 1 0 0 [.ref (ad 11 0), .int (nI k)] ad (Nn n) I J R (po (some (.int (I 32 0 k))) ad (Nn n) (up3 I 11 0 0 0) J R) := by
  refine CT.of 0 (L0 := [some (.ref (ad 11 0)), some (.int (nI k))]) (by decide +kernel) rfl (Nat.le_of_ble_eq_true rfl) ?_
  intro p e s m args below meth c C
  have hk40 : k < 40 := Nat.lt_of_lt_of_le hk hM.2
  refine x_aload_n C dX4_worked_0 rfl ?_
  refine x_iconst C 0 (by decide) dX4_worked_1 ?_
  refine x_putI C g_X4_75 rfl (by first | assumption | exact Nat.one_pos) dX4_worked_2 ?_
  refine x_aload_n C dX4_worked_5 rfl ?_
  refine x_iload_n C dX4_worked_6 rfl ?_
  refine x_cV1 C yo_X4_isKey m_X4_82 rfl rfl (by first | assumption | exact Nat.one_pos) (c_X4_isKey_in l D dA base n ad (up3 I 11 0 0 0) J R hT (hM.up (by decide)) k hk) dX4_worked_7 rfl rfl (Nat.le_of_ble_eq_true rfl) ⟨by decide, by decide⟩ ⟨by decide, by decide⟩ ?_
  refine x_if_eq C 22 dX4_worked_10 (by decide) (fun h10 => ?_) (fun h10 => ?_)
  · skip
    exact absurd h10 (by decide)
  · skip
    refine x_aload_n C dX4_worked_13 rfl ?_
    refine x_getF C hT f_X4_37 rfl rfl (by first | assumption | exact Nat.one_pos) dX4_worked_14 ?_
    refine x_iload_n C dX4_worked_17 rfl ?_
    refine x_ialdN C (k) rfl rfl rfl (by first | assumption | exact Nat.one_pos) hk40 (by decide) dX4_worked_18 ?_
    try simp only [up3_r, Nat.reduceEqDiff, and_false, false_and, and_self, and_true, true_and, reduceIte]
    refine x_goto C 23 dX4_worked_19 (by decide) ?_
    exact x_iret C (po_i _ _ _ _ _ _) dX4_worked_23

set_option maxRecDepth 100000 in
set_option maxHeartbeats 4000000 in
theorem c_X4_worked_out (l : Launch) (D : va_G) (dA : Nat → ClassId) (base n : Nat) (ad : Fa) (I : Fi) (J : Fj) (R : Fr) (hT : ST n R) (hM : MG n I) (x : Int32) (hx : x < 0 ∨ nI n ≤ x)  : CT l D dA base yX4_worked cX4_worked 2 (some .int) 1 0 0 [.ref (ad 11 0), .int x] ad (Nn n) I J R (po (some (.int 0)) ad (Nn n) (up3 I 11 0 0 0) J R) := by
  refine CT.of 0 (L0 := [some (.ref (ad 11 0)), some (.int x)]) (by decide +kernel) rfl (Nat.le_of_ble_eq_true rfl) ?_
  intro p e s m args below meth c C
  refine x_aload_n C dX4_worked_0 rfl ?_
  refine x_iconst C 0 (by decide) dX4_worked_1 ?_
  refine x_putI C g_X4_75 rfl (by first | assumption | exact Nat.one_pos) dX4_worked_2 ?_
  refine x_aload_n C dX4_worked_5 rfl ?_
  refine x_iload_n C dX4_worked_6 rfl ?_
  refine x_cV1 C yo_X4_isKey m_X4_82 rfl rfl (by first | assumption | exact Nat.one_pos) (c_X4_isKey_out l D dA base n ad (up3 I 11 0 0 0) J R hT (hM.up (by decide)) x hx) dX4_worked_7 rfl rfl (Nat.le_of_ble_eq_true rfl) ⟨by decide, by decide⟩ ⟨by decide, by decide⟩ ?_
  refine x_if_eq C 22 dX4_worked_10 (by decide) (fun h10 => ?_) (fun h10 => ?_)
  · skip
    refine x_iconst C 0 (by decide) dX4_worked_22 ?_
    exact x_iret C (po_i _ _ _ _ _ _) dX4_worked_23
  · skip
    exact absurd rfl h10

set_option maxRecDepth 100000 in
set_option maxHeartbeats 4000000 in
theorem c_X4_kept_in (l : Launch) (D : va_G) (dA : Nat → ClassId) (base n : Nat) (ad : Fa) (I : Fi) (J : Fj) (R : Fr) (hT : ST n R) (hM : MG n I) (k : Nat) (hk : k < n)  : CT l D dA base yX4_kept cX4_kept 2 (some .int) 1 0 0 [.ref (ad 11 0), .int (nI k)] ad (Nn n) I J R (po (some (.int (I 33 0 k))) ad (Nn n) (up3 I 11 0 0 0) J R) := by
  refine CT.of 0 (L0 := [some (.ref (ad 11 0)), some (.int (nI k))]) (by decide +kernel) rfl (Nat.le_of_ble_eq_true rfl) ?_
  intro p e s m args below meth c C
  have hk40 : k < 40 := Nat.lt_of_lt_of_le hk hM.2
  refine x_aload_n C dX4_kept_0 rfl ?_
  refine x_iconst C 0 (by decide) dX4_kept_1 ?_
  refine x_putI C g_X4_75 rfl (by first | assumption | exact Nat.one_pos) dX4_kept_2 ?_
  refine x_aload_n C dX4_kept_5 rfl ?_
  refine x_iload_n C dX4_kept_6 rfl ?_
  refine x_cV1 C yo_X4_isKey m_X4_82 rfl rfl (by first | assumption | exact Nat.one_pos) (c_X4_isKey_in l D dA base n ad (up3 I 11 0 0 0) J R hT (hM.up (by decide)) k hk) dX4_kept_7 rfl rfl (Nat.le_of_ble_eq_true rfl) ⟨by decide, by decide⟩ ⟨by decide, by decide⟩ ?_
  refine x_if_eq C 22 dX4_kept_10 (by decide) (fun h10 => ?_) (fun h10 => ?_)
  · skip
    exact absurd h10 (by decide)
  · skip
    refine x_aload_n C dX4_kept_13 rfl ?_
    refine x_getF C hT f_X4_40 rfl rfl (by first | assumption | exact Nat.one_pos) dX4_kept_14 ?_
    refine x_iload_n C dX4_kept_17 rfl ?_
    refine x_ialdN C (k) rfl rfl rfl (by first | assumption | exact Nat.one_pos) hk40 (by decide) dX4_kept_18 ?_
    try simp only [up3_r, Nat.reduceEqDiff, and_false, false_and, and_self, and_true, true_and, reduceIte]
    refine x_goto C 23 dX4_kept_19 (by decide) ?_
    exact x_iret C (po_i _ _ _ _ _ _) dX4_kept_23

set_option maxRecDepth 100000 in
set_option maxHeartbeats 4000000 in
theorem c_X4_kept_out (l : Launch) (D : va_G) (dA : Nat → ClassId) (base n : Nat) (ad : Fa) (I : Fi) (J : Fj) (R : Fr) (hT : ST n R) (hM : MG n I) (x : Int32) (hx : x < 0 ∨ nI n ≤ x)  : CT l D dA base yX4_kept cX4_kept 2 (some .int) 1 0 0 [.ref (ad 11 0), .int x] ad (Nn n) I J R (po (some (.int 0)) ad (Nn n) (up3 I 11 0 0 0) J R) := by
  refine CT.of 0 (L0 := [some (.ref (ad 11 0)), some (.int x)]) (by decide +kernel) rfl (Nat.le_of_ble_eq_true rfl) ?_
  intro p e s m args below meth c C
  refine x_aload_n C dX4_kept_0 rfl ?_
  refine x_iconst C 0 (by decide) dX4_kept_1 ?_
  refine x_putI C g_X4_75 rfl (by first | assumption | exact Nat.one_pos) dX4_kept_2 ?_
  refine x_aload_n C dX4_kept_5 rfl ?_
  refine x_iload_n C dX4_kept_6 rfl ?_
  refine x_cV1 C yo_X4_isKey m_X4_82 rfl rfl (by first | assumption | exact Nat.one_pos) (c_X4_isKey_out l D dA base n ad (up3 I 11 0 0 0) J R hT (hM.up (by decide)) x hx) dX4_kept_7 rfl rfl (Nat.le_of_ble_eq_true rfl) ⟨by decide, by decide⟩ ⟨by decide, by decide⟩ ?_
  refine x_if_eq C 22 dX4_kept_10 (by decide) (fun h10 => ?_) (fun h10 => ?_)
  · skip
    refine x_iconst C 0 (by decide) dX4_kept_22 ?_
    exact x_iret C (po_i _ _ _ _ _ _) dX4_kept_23
  · skip
    exact absurd rfl h10

set_option maxRecDepth 100000 in
set_option maxHeartbeats 4000000 in
theorem c_X4_version (l : Launch) (D : va_G) (dA : Nat → ClassId) (base n : Nat) (ad : Fa) (I : Fi) (J : Fj) (R : Fr) (hT : ST n R)  : CT l D dA base yX4_version cX4_version 1 (some .int) 0 0 0 [.ref (ad 11 0)] ad (Nn n) I J R (po (some (.int (I 11 0 1))) ad (Nn n) (up3 I 11 0 0 0) J R) := by
  refine CT.of 0 (L0 := [some (.ref (ad 11 0))]) (by decide +kernel) rfl (Nat.le_of_ble_eq_true rfl) ?_
  intro p e s m args below meth c C
  refine x_aload_n C dX4_version_0 rfl ?_
  refine x_iconst C 0 (by decide) dX4_version_1 ?_
  refine x_putI C g_X4_75 rfl (by first | assumption | exact Nat.one_pos) dX4_version_2 ?_
  refine x_aload_n C dX4_version_5 rfl ?_
  refine x_getI C f_X4_86 rfl (by first | assumption | exact Nat.one_pos) dX4_version_6 ?_
  try simp only [up3_r, Nat.reduceEqDiff, and_false, false_and, and_self, and_true, true_and, reduceIte]
  exact x_iret C (po_i _ _ _ _ _ _) dX4_version_9

set_option maxRecDepth 100000 in
set_option maxHeartbeats 4000000 in
theorem c_X4_thrown (l : Launch) (D : va_G) (dA : Nat → ClassId) (base n : Nat) (ad : Fa) (I : Fi) (J : Fj) (R : Fr) (hT : ST n R)  : CT l D dA base yX4_thrown cX4_thrown 1 (some .int) 0 0 0 [.ref (ad 11 0)] ad (Nn n) I J R (po (some (.int (I 11 0 0))) ad (Nn n) I J R) := by
  refine CT.of 0 (L0 := [some (.ref (ad 11 0))]) (by decide +kernel) rfl (Nat.le_of_ble_eq_true rfl) ?_
  intro p e s m args below meth c C
  refine x_aload_n C dX4_thrown_0 rfl ?_
  refine x_getI C f_X4_75 rfl (by first | assumption | exact Nat.one_pos) dX4_thrown_1 ?_
  exact x_iret C (po_i _ _ _ _ _ _) dX4_thrown_4

theorem msure_c (I : Fi) (k : Nat) : msure (up3 I 11 0 0 0) k = msure I k := by simp [msure, up3]
set_option maxRecDepth 100000 in
set_option maxHeartbeats 4000000 in
theorem c_X4_state_in (l : Launch) (D : va_G) (dA : Nat → ClassId) (base n : Nat) (ad : Fa) (I : Fi) (J : Fj) (R : Fr) (hT : ST n R) (hM : MG n I) (k : Nat) (hk : k < n)  : CT l D dA base yX4_state cX4_state 2 (some .int) 1 0 0 [.ref (ad 11 0), .int (nI k)] ad (Nn n) I J R (po (some (.int (if msure I k = true then I 26 0 k else 0))) ad (Nn n) (up3 I 11 0 0 0) J R) := by
  refine CT.of 0 (L0 := [some (.ref (ad 11 0)), some (.int (nI k))]) (by decide +kernel) rfl (Nat.le_of_ble_eq_true rfl) ?_
  intro p e s m args below meth c C
  have hk40 : k < 40 := Nat.lt_of_lt_of_le hk hM.2
  refine x_aload_n C dX4_state_0 rfl ?_
  refine x_iconst C 0 (by decide) dX4_state_1 ?_
  refine x_putI C g_X4_75 rfl (by first | assumption | exact Nat.one_pos) dX4_state_2 ?_
  refine x_aload_n C dX4_state_5 rfl ?_
  refine x_iload_n C dX4_state_6 rfl ?_
  refine x_cV1 C yo_X4_isKey m_X4_82 rfl rfl (by first | assumption | exact Nat.one_pos) (c_X4_isKey_in l D dA base n ad (up3 I 11 0 0 0) J R hT (hM.up (by decide)) k hk) dX4_state_7 rfl rfl (Nat.le_of_ble_eq_true rfl) ⟨by decide, by decide⟩ ⟨by decide, by decide⟩ ?_
  refine x_if_eq C 30 dX4_state_10 (by decide) (fun h10 => ?_) (fun h10 => ?_)
  · skip
    exact absurd h10 (by decide)
  · skip
    refine x_aload_n C dX4_state_13 rfl ?_
    refine x_iload_n C dX4_state_14 rfl ?_
    refine x_cV1 C yo_X4_isSure m_X4_123 rfl rfl (by first | assumption | exact Nat.one_pos) (c_X4_isSure l D dA base n ad (up3 I 11 0 0 0) J R hT k hk40) dX4_state_15 rfl rfl (Nat.le_of_ble_eq_true rfl) ⟨by decide, by decide⟩ ⟨by decide, by decide⟩ ?_
    refine x_if_eq C 30 dX4_state_18 (by decide) (fun h18 => ?_) (fun h18 => ?_)
    · skip
      rw [msure_c] at h18
      refine x_iconst C 0 (by decide) dX4_state_30 ?_
      exact x_iret C (po_r (by simp_all)) dX4_state_31
    · skip
      rw [msure_c] at h18
      refine x_aload_n C dX4_state_21 rfl ?_
      refine x_getF C hT f_X4_19 rfl rfl (by first | assumption | exact Nat.one_pos) dX4_state_22 ?_
      refine x_iload_n C dX4_state_25 rfl ?_
      refine x_ialdN C (k) rfl rfl rfl (by first | assumption | exact Nat.one_pos) hk40 (by decide) dX4_state_26 ?_
      try simp only [up3_r, Nat.reduceEqDiff, and_false, false_and, and_self, and_true, true_and, reduceIte]
      refine x_goto C 31 dX4_state_27 (by decide) ?_
      exact x_iret C (po_r (by simp_all)) dX4_state_31

set_option maxRecDepth 100000 in
set_option maxHeartbeats 4000000 in
theorem c_X4_state_out (l : Launch) (D : va_G) (dA : Nat → ClassId) (base n : Nat) (ad : Fa) (I : Fi) (J : Fj) (R : Fr) (hT : ST n R) (hM : MG n I) (x : Int32) (hx : x < 0 ∨ nI n ≤ x)  : CT l D dA base yX4_state cX4_state 2 (some .int) 1 0 0 [.ref (ad 11 0), .int x] ad (Nn n) I J R (po (some (.int 0)) ad (Nn n) (up3 I 11 0 0 0) J R) := by
  refine CT.of 0 (L0 := [some (.ref (ad 11 0)), some (.int x)]) (by decide +kernel) rfl (Nat.le_of_ble_eq_true rfl) ?_
  intro p e s m args below meth c C
  refine x_aload_n C dX4_state_0 rfl ?_
  refine x_iconst C 0 (by decide) dX4_state_1 ?_
  refine x_putI C g_X4_75 rfl (by first | assumption | exact Nat.one_pos) dX4_state_2 ?_
  refine x_aload_n C dX4_state_5 rfl ?_
  refine x_iload_n C dX4_state_6 rfl ?_
  refine x_cV1 C yo_X4_isKey m_X4_82 rfl rfl (by first | assumption | exact Nat.one_pos) (c_X4_isKey_out l D dA base n ad (up3 I 11 0 0 0) J R hT (hM.up (by decide)) x hx) dX4_state_7 rfl rfl (Nat.le_of_ble_eq_true rfl) ⟨by decide, by decide⟩ ⟨by decide, by decide⟩ ?_
  refine x_if_eq C 30 dX4_state_10 (by decide) (fun h10 => ?_) (fun h10 => ?_)
  · skip
    refine x_iconst C 0 (by decide) dX4_state_30 ?_
    exact x_iret C (po_i _ _ _ _ _ _) dX4_state_31
  · skip
    exact absurd rfl h10

set_option maxRecDepth 100000 in
set_option maxHeartbeats 4000000 in
theorem c_X4_changed_in (l : Launch) (D : va_G) (dA : Nat → ClassId) (base n : Nat) (ad : Fa) (I : Fi) (J : Fj) (R : Fr) (hT : ST n R) (hM : MG n I) (k : Nat) (hk : k < n)  : CT l D dA base yX4_changed cX4_changed 2 (some .int) 1 0 0 [.ref (ad 11 0), .int (nI k)] ad (Nn n) I J R (po (some (.int (if I 23 0 k = -1 ∨ ¬ I 36 0 k = 0 then I 28 0 k else -1))) ad (Nn n) (up3 I 11 0 0 0) J R) := by
  refine CT.of 0 (L0 := [some (.ref (ad 11 0)), some (.int (nI k))]) (by decide +kernel) rfl (Nat.le_of_ble_eq_true rfl) ?_
  intro p e s m args below meth c C
  have hk40 : k < 40 := Nat.lt_of_lt_of_le hk hM.2
  refine x_aload_n C dX4_changed_0 rfl ?_
  refine x_iconst C 0 (by decide) dX4_changed_1 ?_
  refine x_putI C g_X4_75 rfl (by first | assumption | exact Nat.one_pos) dX4_changed_2 ?_
  refine x_aload_n C dX4_changed_5 rfl ?_
  refine x_iload_n C dX4_changed_6 rfl ?_
  refine x_cV1 C yo_X4_isKey m_X4_82 rfl rfl (by first | assumption | exact Nat.one_pos) (c_X4_isKey_in l D dA base n ad (up3 I 11 0 0 0) J R hT (hM.up (by decide)) k hk) dX4_changed_7 rfl rfl (Nat.le_of_ble_eq_true rfl) ⟨by decide, by decide⟩ ⟨by decide, by decide⟩ ?_
  refine x_if_eq C 41 dX4_changed_10 (by decide) (fun h10 => ?_) (fun h10 => ?_)
  · skip
    exact absurd h10 (by decide)
  · skip
    refine x_aload_n C dX4_changed_13 rfl ?_
    refine x_getF C hT f_X4_7 rfl rfl (by first | assumption | exact Nat.one_pos) dX4_changed_14 ?_
    refine x_iload_n C dX4_changed_17 rfl ?_
    refine x_ialdN C (k) rfl rfl rfl (by first | assumption | exact Nat.one_pos) hk40 (by decide) dX4_changed_18 ?_
    try simp only [up3_r, Nat.reduceEqDiff, and_false, false_and, and_self, and_true, true_and, reduceIte]
    refine x_iconst C (-1) (by decide) dX4_changed_19 ?_
    refine x_icmp_eq C 32 dX4_changed_20 (by decide) (fun h20 => ?_) (fun h20 => ?_)
    · skip
      refine x_aload_n C dX4_changed_32 rfl ?_
      refine x_getF C hT f_X4_25 rfl rfl (by first | assumption | exact Nat.one_pos) dX4_changed_33 ?_
      refine x_iload_n C dX4_changed_36 rfl ?_
      refine x_ialdN C (k) rfl rfl rfl (by first | assumption | exact Nat.one_pos) hk40 (by decide) dX4_changed_37 ?_
      try simp only [up3_r, Nat.reduceEqDiff, and_false, false_and, and_self, and_true, true_and, reduceIte]
      refine x_goto C 42 dX4_changed_38 (by decide) ?_
      exact x_iret C (po_r (by simp_all)) dX4_changed_42
    · skip
      refine x_aload_n C dX4_changed_23 rfl ?_
      refine x_getF C hT f_X4_51 rfl rfl (by first | assumption | exact Nat.one_pos) dX4_changed_24 ?_
      refine x_iload_n C dX4_changed_27 rfl ?_
      refine x_zaldN C (k) rfl rfl rfl (by first | assumption | exact Nat.one_pos) hk40 (by decide) dX4_changed_28 ?_
      try simp only [up3_r, Nat.reduceEqDiff, and_false, false_and, and_self, and_true, true_and, reduceIte]
      refine x_if_eq C 41 dX4_changed_29 (by decide) (fun h29 => ?_) (fun h29 => ?_)
      · skip
        refine x_iconst C (-1) (by decide) dX4_changed_41 ?_
        exact x_iret C (po_r (by simp_all)) dX4_changed_42
      · skip
        refine x_aload_n C dX4_changed_32 rfl ?_
        refine x_getF C hT f_X4_25 rfl rfl (by first | assumption | exact Nat.one_pos) dX4_changed_33 ?_
        refine x_iload_n C dX4_changed_36 rfl ?_
        refine x_ialdN C (k) rfl rfl rfl (by first | assumption | exact Nat.one_pos) hk40 (by decide) dX4_changed_37 ?_
        try simp only [up3_r, Nat.reduceEqDiff, and_false, false_and, and_self, and_true, true_and, reduceIte]
        refine x_goto C 42 dX4_changed_38 (by decide) ?_
        exact x_iret C (po_r (by simp_all)) dX4_changed_42

set_option maxRecDepth 100000 in
set_option maxHeartbeats 4000000 in
theorem c_X4_changed_out (l : Launch) (D : va_G) (dA : Nat → ClassId) (base n : Nat) (ad : Fa) (I : Fi) (J : Fj) (R : Fr) (hT : ST n R) (hM : MG n I) (x : Int32) (hx : x < 0 ∨ nI n ≤ x)  : CT l D dA base yX4_changed cX4_changed 2 (some .int) 1 0 0 [.ref (ad 11 0), .int x] ad (Nn n) I J R (po (some (.int (-1))) ad (Nn n) (up3 I 11 0 0 0) J R) := by
  refine CT.of 0 (L0 := [some (.ref (ad 11 0)), some (.int x)]) (by decide +kernel) rfl (Nat.le_of_ble_eq_true rfl) ?_
  intro p e s m args below meth c C
  refine x_aload_n C dX4_changed_0 rfl ?_
  refine x_iconst C 0 (by decide) dX4_changed_1 ?_
  refine x_putI C g_X4_75 rfl (by first | assumption | exact Nat.one_pos) dX4_changed_2 ?_
  refine x_aload_n C dX4_changed_5 rfl ?_
  refine x_iload_n C dX4_changed_6 rfl ?_
  refine x_cV1 C yo_X4_isKey m_X4_82 rfl rfl (by first | assumption | exact Nat.one_pos) (c_X4_isKey_out l D dA base n ad (up3 I 11 0 0 0) J R hT (hM.up (by decide)) x hx) dX4_changed_7 rfl rfl (Nat.le_of_ble_eq_true rfl) ⟨by decide, by decide⟩ ⟨by decide, by decide⟩ ?_
  refine x_if_eq C 41 dX4_changed_10 (by decide) (fun h10 => ?_) (fun h10 => ?_)
  · skip
    refine x_iconst C (-1) (by decide) dX4_changed_41 ?_
    exact x_iret C (po_i _ _ _ _ _ _) dX4_changed_42
  · skip
    exact absurd rfl h10

set_option maxRecDepth 100000 in
set_option maxHeartbeats 4000000 in
theorem c_X4_asked_in (l : Launch) (D : va_G) (dA : Nat → ClassId) (base n : Nat) (ad : Fa) (I : Fi) (J : Fj) (R : Fr) (hT : ST n R) (hM : MG n I) (k : Nat) (hk : k < n) (j a : Nat) (ha : I 30 0 k = nI a) (ha8 : a ≤ 8) (hj : j < a) (hq : ¬ I 36 0 k = 0) : CT l D dA base yX4_asked cX4_asked 3 (some .int) 1 0 0 [.ref (ad 11 0), .int (nI k), .int (nI j)] ad (Nn n) I J R (po (some (.int (I 31 0 (8 * k + j)))) ad (Nn n) (up3 I 11 0 0 0) J R) := by
  refine CT.of 0 (L0 := [some (.ref (ad 11 0)), some (.int (nI k)), some (.int (nI j))]) (by decide +kernel) rfl (Nat.le_of_ble_eq_true rfl) ?_
  intro p e s m args below meth c C
  have hk40 : k < 40 := Nat.lt_of_lt_of_le hk hM.2
  refine x_aload_n C dX4_asked_0 rfl ?_
  refine x_iconst C 0 (by decide) dX4_asked_1 ?_
  refine x_putI C g_X4_75 rfl (by first | assumption | exact Nat.one_pos) dX4_asked_2 ?_
  refine x_aload_n C dX4_asked_5 rfl ?_
  refine x_iload_n C dX4_asked_6 rfl ?_
  refine x_cV1 C yo_X4_isKey m_X4_82 rfl rfl (by first | assumption | exact Nat.one_pos) (c_X4_isKey_in l D dA base n ad (up3 I 11 0 0 0) J R hT (hM.up (by decide)) k hk) dX4_asked_7 rfl rfl (Nat.le_of_ble_eq_true rfl) ⟨by decide, by decide⟩ ⟨by decide, by decide⟩ ?_
  refine x_if_eq C 50 dX4_asked_10 (by decide) (fun h10 => ?_) (fun h10 => ?_)
  · skip
    exact absurd h10 (by decide)
  · skip
    refine x_aload_n C dX4_asked_13 rfl ?_
    refine x_getF C hT f_X4_51 rfl rfl (by first | assumption | exact Nat.one_pos) dX4_asked_14 ?_
    refine x_iload_n C dX4_asked_17 rfl ?_
    refine x_zaldN C (k) rfl rfl rfl (by first | assumption | exact Nat.one_pos) hk40 (by decide) dX4_asked_18 ?_
    try simp only [up3_r, Nat.reduceEqDiff, and_false, false_and, and_self, and_true, true_and, reduceIte]
    refine x_if_eq C 50 dX4_asked_19 (by decide) (fun h19 => ?_) (fun h19 => ?_)
    · skip
      exact absurd h19 hq
    · skip
      refine x_iload_n C dX4_asked_22 rfl ?_
      refine x_if_lt C 50 dX4_asked_23 (by decide) (fun h23 => ?_) (fun h23 => ?_)
      · skip
        exact absurd h23 (nI_pos (by omega))
      · skip
        refine x_iload_n C dX4_asked_26 rfl ?_
        refine x_aload_n C dX4_asked_27 rfl ?_
        refine x_getF C hT f_X4_31 rfl rfl (by first | assumption | exact Nat.one_pos) dX4_asked_28 ?_
        refine x_iload_n C dX4_asked_31 rfl ?_
        refine x_ialdN C (k) rfl rfl rfl (by first | assumption | exact Nat.one_pos) hk40 (by decide) dX4_asked_32 ?_
        try simp only [up3_r, Nat.reduceEqDiff, and_false, false_and, and_self, and_true, true_and, reduceIte]
        refine x_icmp_ge C 50 dX4_asked_33 (by decide) (fun h33 => ?_) (fun h33 => ?_)
        · skip
          rw [ha] at h33
          exact absurd h33 (nI_ge hj (by omega))
        · skip
          refine x_aload_n C dX4_asked_36 rfl ?_
          refine x_getF C hT f_X4_34 rfl rfl (by first | assumption | exact Nat.one_pos) dX4_asked_37 ?_
          refine x_bipush C 8 (by decide) dX4_asked_40 ?_
          refine x_iload_n C dX4_asked_42 rfl ?_
          refine x_imul C dX4_asked_43 ?_
          refine x_iload_n C dX4_asked_44 rfl ?_
          refine x_iadd C dX4_asked_45 ?_
          refine x_ialdN C (8 * k + j) (ix8 k j) rfl rfl (by first | assumption | exact Nat.one_pos) (by omega) (by decide) dX4_asked_46 ?_
          try simp only [up3_r, Nat.reduceEqDiff, and_false, false_and, and_self, and_true, true_and, reduceIte]
          refine x_goto C 51 dX4_asked_47 (by decide) ?_
          exact x_iret C (po_i _ _ _ _ _ _) dX4_asked_51

set_option maxRecDepth 100000 in
set_option maxHeartbeats 4000000 in
theorem c_X4_asked_far (l : Launch) (D : va_G) (dA : Nat → ClassId) (base n : Nat) (ad : Fa) (I : Fi) (J : Fj) (R : Fr) (hT : ST n R) (hM : MG n I) (k : Nat) (hk : k < n) (y : Int32) (a : Nat) (ha : I 30 0 k = nI a) (hy : y < 0 ∨ nI a ≤ y) : CT l D dA base yX4_asked cX4_asked 3 (some .int) 1 0 0 [.ref (ad 11 0), .int (nI k), .int y] ad (Nn n) I J R (po (some (.int (-1))) ad (Nn n) (up3 I 11 0 0 0) J R) := by
  refine CT.of 0 (L0 := [some (.ref (ad 11 0)), some (.int (nI k)), some (.int y)]) (by decide +kernel) rfl (Nat.le_of_ble_eq_true rfl) ?_
  intro p e s m args below meth c C
  have hk40 : k < 40 := Nat.lt_of_lt_of_le hk hM.2
  refine x_aload_n C dX4_asked_0 rfl ?_
  refine x_iconst C 0 (by decide) dX4_asked_1 ?_
  refine x_putI C g_X4_75 rfl (by first | assumption | exact Nat.one_pos) dX4_asked_2 ?_
  refine x_aload_n C dX4_asked_5 rfl ?_
  refine x_iload_n C dX4_asked_6 rfl ?_
  refine x_cV1 C yo_X4_isKey m_X4_82 rfl rfl (by first | assumption | exact Nat.one_pos) (c_X4_isKey_in l D dA base n ad (up3 I 11 0 0 0) J R hT (hM.up (by decide)) k hk) dX4_asked_7 rfl rfl (Nat.le_of_ble_eq_true rfl) ⟨by decide, by decide⟩ ⟨by decide, by decide⟩ ?_
  refine x_if_eq C 50 dX4_asked_10 (by decide) (fun h10 => ?_) (fun h10 => ?_)
  · skip
    exact absurd h10 (by decide)
  · skip
    refine x_aload_n C dX4_asked_13 rfl ?_
    refine x_getF C hT f_X4_51 rfl rfl (by first | assumption | exact Nat.one_pos) dX4_asked_14 ?_
    refine x_iload_n C dX4_asked_17 rfl ?_
    refine x_zaldN C (k) rfl rfl rfl (by first | assumption | exact Nat.one_pos) hk40 (by decide) dX4_asked_18 ?_
    try simp only [up3_r, Nat.reduceEqDiff, and_false, false_and, and_self, and_true, true_and, reduceIte]
    refine x_if_eq C 50 dX4_asked_19 (by decide) (fun h19 => ?_) (fun h19 => ?_)
    · skip
      refine x_iconst C (-1) (by decide) dX4_asked_50 ?_
      exact x_iret C (po_i _ _ _ _ _ _) dX4_asked_51
    · skip
      refine x_iload_n C dX4_asked_22 rfl ?_
      refine x_if_lt C 50 dX4_asked_23 (by decide) (fun h23 => ?_) (fun h23 => ?_)
      · skip
        refine x_iconst C (-1) (by decide) dX4_asked_50 ?_
        exact x_iret C (po_i _ _ _ _ _ _) dX4_asked_51
      · skip
        refine x_iload_n C dX4_asked_26 rfl ?_
        refine x_aload_n C dX4_asked_27 rfl ?_
        refine x_getF C hT f_X4_31 rfl rfl (by first | assumption | exact Nat.one_pos) dX4_asked_28 ?_
        refine x_iload_n C dX4_asked_31 rfl ?_
        refine x_ialdN C (k) rfl rfl rfl (by first | assumption | exact Nat.one_pos) hk40 (by decide) dX4_asked_32 ?_
        try simp only [up3_r, Nat.reduceEqDiff, and_false, false_and, and_self, and_true, true_and, reduceIte]
        refine x_icmp_ge C 50 dX4_asked_33 (by decide) (fun h33 => ?_) (fun h33 => ?_)
        · skip
          refine x_iconst C (-1) (by decide) dX4_asked_50 ?_
          exact x_iret C (po_i _ _ _ _ _ _) dX4_asked_51
        · skip
          rw [ha] at h33
          exact absurd (hy.elim (fun q => absurd q h23) id) h33

set_option maxRecDepth 100000 in
set_option maxHeartbeats 4000000 in
theorem c_X4_asked_not (l : Launch) (D : va_G) (dA : Nat → ClassId) (base n : Nat) (ad : Fa) (I : Fi) (J : Fj) (R : Fr) (hT : ST n R) (hM : MG n I) (k : Nat) (hk : k < n) (y : Int32) (hq : I 36 0 k = 0) : CT l D dA base yX4_asked cX4_asked 3 (some .int) 1 0 0 [.ref (ad 11 0), .int (nI k), .int y] ad (Nn n) I J R (po (some (.int (-1))) ad (Nn n) (up3 I 11 0 0 0) J R) := by
  refine CT.of 0 (L0 := [some (.ref (ad 11 0)), some (.int (nI k)), some (.int y)]) (by decide +kernel) rfl (Nat.le_of_ble_eq_true rfl) ?_
  intro p e s m args below meth c C
  have hk40 : k < 40 := Nat.lt_of_lt_of_le hk hM.2
  refine x_aload_n C dX4_asked_0 rfl ?_
  refine x_iconst C 0 (by decide) dX4_asked_1 ?_
  refine x_putI C g_X4_75 rfl (by first | assumption | exact Nat.one_pos) dX4_asked_2 ?_
  refine x_aload_n C dX4_asked_5 rfl ?_
  refine x_iload_n C dX4_asked_6 rfl ?_
  refine x_cV1 C yo_X4_isKey m_X4_82 rfl rfl (by first | assumption | exact Nat.one_pos) (c_X4_isKey_in l D dA base n ad (up3 I 11 0 0 0) J R hT (hM.up (by decide)) k hk) dX4_asked_7 rfl rfl (Nat.le_of_ble_eq_true rfl) ⟨by decide, by decide⟩ ⟨by decide, by decide⟩ ?_
  refine x_if_eq C 50 dX4_asked_10 (by decide) (fun h10 => ?_) (fun h10 => ?_)
  · skip
    exact absurd h10 (by decide)
  · skip
    refine x_aload_n C dX4_asked_13 rfl ?_
    refine x_getF C hT f_X4_51 rfl rfl (by first | assumption | exact Nat.one_pos) dX4_asked_14 ?_
    refine x_iload_n C dX4_asked_17 rfl ?_
    refine x_zaldN C (k) rfl rfl rfl (by first | assumption | exact Nat.one_pos) hk40 (by decide) dX4_asked_18 ?_
    try simp only [up3_r, Nat.reduceEqDiff, and_false, false_and, and_self, and_true, true_and, reduceIte]
    refine x_if_eq C 50 dX4_asked_19 (by decide) (fun h19 => ?_) (fun h19 => ?_)
    · skip
      refine x_iconst C (-1) (by decide) dX4_asked_50 ?_
      exact x_iret C (po_i _ _ _ _ _ _) dX4_asked_51
    · skip
      exact absurd hq h19

set_option maxRecDepth 100000 in
set_option maxHeartbeats 4000000 in
theorem c_X4_asked_out (l : Launch) (D : va_G) (dA : Nat → ClassId) (base n : Nat) (ad : Fa) (I : Fi) (J : Fj) (R : Fr) (hT : ST n R) (hM : MG n I) (x : Int32) (hx : x < 0 ∨ nI n ≤ x) (y : Int32) : CT l D dA base yX4_asked cX4_asked 3 (some .int) 1 0 0 [.ref (ad 11 0), .int x, .int y] ad (Nn n) I J R (po (some (.int (-1))) ad (Nn n) (up3 I 11 0 0 0) J R) := by
  refine CT.of 0 (L0 := [some (.ref (ad 11 0)), some (.int x), some (.int y)]) (by decide +kernel) rfl (Nat.le_of_ble_eq_true rfl) ?_
  intro p e s m args below meth c C
  refine x_aload_n C dX4_asked_0 rfl ?_
  refine x_iconst C 0 (by decide) dX4_asked_1 ?_
  refine x_putI C g_X4_75 rfl (by first | assumption | exact Nat.one_pos) dX4_asked_2 ?_
  refine x_aload_n C dX4_asked_5 rfl ?_
  refine x_iload_n C dX4_asked_6 rfl ?_
  refine x_cV1 C yo_X4_isKey m_X4_82 rfl rfl (by first | assumption | exact Nat.one_pos) (c_X4_isKey_out l D dA base n ad (up3 I 11 0 0 0) J R hT (hM.up (by decide)) x hx) dX4_asked_7 rfl rfl (Nat.le_of_ble_eq_true rfl) ⟨by decide, by decide⟩ ⟨by decide, by decide⟩ ?_
  refine x_if_eq C 50 dX4_asked_10 (by decide) (fun h10 => ?_) (fun h10 => ?_)
  · skip
    refine x_iconst C (-1) (by decide) dX4_asked_50 ?_
    exact x_iret C (po_i _ _ _ _ _ _) dX4_asked_51
  · skip
    exact absurd rfl h10

set_option maxRecDepth 100000 in
set_option maxHeartbeats 4000000 in
theorem c_X4_drop_yes (l : Launch) (D : va_G) (dA : Nat → ClassId) (base n : Nat) (ad : Fa) (I : Fi) (J : Fj) (R : Fr) (hT : ST n R) (hM : MG n I) (k : Nat) (hk : k < n) (zs : Nat → Nat) (hH : HI I zs) (hq : ¬ I 36 0 k = 0) : CT l D dA base yX4_drop cX4_drop 2 (some .boolean) 1 0 0 [.ref (ad 11 0), .int (nI k)] ad (Nn n) I J R (po (some (.int 1)) ad (Nn n) (emS (up3 (up3 I 11 0 0 0) 36 0 k 0) 5) J R) := by
  refine CT.of 0 (L0 := [some (.ref (ad 11 0)), some (.int (nI k))]) (by decide +kernel) rfl (Nat.le_of_ble_eq_true rfl) ?_
  intro p e s m args below meth c C
  have hk40 : k < 40 := Nat.lt_of_lt_of_le hk hM.2
  refine x_aload_n C dX4_drop_0 rfl ?_
  refine x_iconst C 0 (by decide) dX4_drop_1 ?_
  refine x_putI C g_X4_75 rfl (by first | assumption | exact Nat.one_pos) dX4_drop_2 ?_
  refine x_aload_n C dX4_drop_5 rfl ?_
  refine x_iload_n C dX4_drop_6 rfl ?_
  refine x_cV1 C yo_X4_isKey m_X4_82 rfl rfl (by first | assumption | exact Nat.one_pos) (c_X4_isKey_in l D dA base n ad (up3 I 11 0 0 0) J R hT (hM.up (by decide)) k hk) dX4_drop_7 rfl rfl (Nat.le_of_ble_eq_true rfl) ⟨by decide, by decide⟩ ⟨by decide, by decide⟩ ?_
  refine x_if_eq C 22 dX4_drop_10 (by decide) (fun h10 => ?_) (fun h10 => ?_)
  · skip
    exact absurd h10 (by decide)
  · skip
    refine x_aload_n C dX4_drop_13 rfl ?_
    refine x_getF C hT f_X4_51 rfl rfl (by first | assumption | exact Nat.one_pos) dX4_drop_14 ?_
    refine x_iload_n C dX4_drop_17 rfl ?_
    refine x_zaldN C (k) rfl rfl rfl (by first | assumption | exact Nat.one_pos) hk40 (by decide) dX4_drop_18 ?_
    try simp only [up3_r, Nat.reduceEqDiff, and_false, false_and, and_self, and_true, true_and, reduceIte]
    refine x_if_ne C 24 dX4_drop_19 (by decide) (fun h19 => ?_) (fun h19 => ?_)
    · skip
      refine x_aload_n C dX4_drop_24 rfl ?_
      refine x_getF C hT f_X4_51 rfl rfl (by first | assumption | exact Nat.one_pos) dX4_drop_25 ?_
      refine x_iload_n C dX4_drop_28 rfl ?_
      refine x_iconst C 0 (by decide) dX4_drop_29 ?_
      refine x_zastN C (k) rfl rfl rfl (by first | assumption | exact Nat.one_pos) hk40 (by decide) (by first | exact Or.inl rfl | exact Or.inr rfl | assumption) dX4_drop_30 ?_
      refine x_aload_n C dX4_drop_31 rfl ?_
      refine x_cV1 C yo_X4_empty m_X4_93 rfl rfl (by first | assumption | exact Nat.one_pos) (c_X4_empty l D dA base n ad (up3 (up3 I 11 0 0 0) 36 0 k 0) J R hT zs ((hH.up (by decide)).up (by decide))) dX4_drop_32 rfl rfl (Nat.le_of_ble_eq_true rfl) ⟨by decide, by decide⟩ ⟨by decide, by decide⟩ ?_
      refine x_pop C rfl dX4_drop_35 ?_
      refine x_iconst C 1 (by decide) dX4_drop_36 ?_
      exact x_zret C (by first | exact Or.inl rfl | exact Or.inr rfl | assumption) (po_i _ _ _ _ _ _) dX4_drop_37
    · skip
      exact absurd h19 hq

set_option maxRecDepth 100000 in
set_option maxHeartbeats 4000000 in
theorem c_X4_drop_no (l : Launch) (D : va_G) (dA : Nat → ClassId) (base n : Nat) (ad : Fa) (I : Fi) (J : Fj) (R : Fr) (hT : ST n R) (hM : MG n I) (k : Nat) (hk : k < n) (hq : I 36 0 k = 0) : CT l D dA base yX4_drop cX4_drop 2 (some .boolean) 1 0 0 [.ref (ad 11 0), .int (nI k)] ad (Nn n) I J R (po (some (.int 0)) ad (Nn n) (up3 I 11 0 0 0) J R) := by
  refine CT.of 0 (L0 := [some (.ref (ad 11 0)), some (.int (nI k))]) (by decide +kernel) rfl (Nat.le_of_ble_eq_true rfl) ?_
  intro p e s m args below meth c C
  have hk40 : k < 40 := Nat.lt_of_lt_of_le hk hM.2
  refine x_aload_n C dX4_drop_0 rfl ?_
  refine x_iconst C 0 (by decide) dX4_drop_1 ?_
  refine x_putI C g_X4_75 rfl (by first | assumption | exact Nat.one_pos) dX4_drop_2 ?_
  refine x_aload_n C dX4_drop_5 rfl ?_
  refine x_iload_n C dX4_drop_6 rfl ?_
  refine x_cV1 C yo_X4_isKey m_X4_82 rfl rfl (by first | assumption | exact Nat.one_pos) (c_X4_isKey_in l D dA base n ad (up3 I 11 0 0 0) J R hT (hM.up (by decide)) k hk) dX4_drop_7 rfl rfl (Nat.le_of_ble_eq_true rfl) ⟨by decide, by decide⟩ ⟨by decide, by decide⟩ ?_
  refine x_if_eq C 22 dX4_drop_10 (by decide) (fun h10 => ?_) (fun h10 => ?_)
  · skip
    exact absurd h10 (by decide)
  · skip
    refine x_aload_n C dX4_drop_13 rfl ?_
    refine x_getF C hT f_X4_51 rfl rfl (by first | assumption | exact Nat.one_pos) dX4_drop_14 ?_
    refine x_iload_n C dX4_drop_17 rfl ?_
    refine x_zaldN C (k) rfl rfl rfl (by first | assumption | exact Nat.one_pos) hk40 (by decide) dX4_drop_18 ?_
    try simp only [up3_r, Nat.reduceEqDiff, and_false, false_and, and_self, and_true, true_and, reduceIte]
    refine x_if_ne C 24 dX4_drop_19 (by decide) (fun h19 => ?_) (fun h19 => ?_)
    · skip
      exact absurd hq h19
    · skip
      refine x_iconst C 0 (by decide) dX4_drop_22 ?_
      exact x_zret C (by first | exact Or.inl rfl | exact Or.inr rfl | assumption) (po_i _ _ _ _ _ _) dX4_drop_23

set_option maxRecDepth 100000 in
set_option maxHeartbeats 4000000 in
theorem c_X4_drop_out (l : Launch) (D : va_G) (dA : Nat → ClassId) (base n : Nat) (ad : Fa) (I : Fi) (J : Fj) (R : Fr) (hT : ST n R) (hM : MG n I) (x : Int32) (hx : x < 0 ∨ nI n ≤ x)  : CT l D dA base yX4_drop cX4_drop 2 (some .boolean) 1 0 0 [.ref (ad 11 0), .int x] ad (Nn n) I J R (po (some (.int 0)) ad (Nn n) (up3 I 11 0 0 0) J R) := by
  refine CT.of 0 (L0 := [some (.ref (ad 11 0)), some (.int x)]) (by decide +kernel) rfl (Nat.le_of_ble_eq_true rfl) ?_
  intro p e s m args below meth c C
  refine x_aload_n C dX4_drop_0 rfl ?_
  refine x_iconst C 0 (by decide) dX4_drop_1 ?_
  refine x_putI C g_X4_75 rfl (by first | assumption | exact Nat.one_pos) dX4_drop_2 ?_
  refine x_aload_n C dX4_drop_5 rfl ?_
  refine x_iload_n C dX4_drop_6 rfl ?_
  refine x_cV1 C yo_X4_isKey m_X4_82 rfl rfl (by first | assumption | exact Nat.one_pos) (c_X4_isKey_out l D dA base n ad (up3 I 11 0 0 0) J R hT (hM.up (by decide)) x hx) dX4_drop_7 rfl rfl (Nat.le_of_ble_eq_true rfl) ⟨by decide, by decide⟩ ⟨by decide, by decide⟩ ?_
  refine x_if_eq C 22 dX4_drop_10 (by decide) (fun h10 => ?_) (fun h10 => ?_)
  · skip
    refine x_iconst C 0 (by decide) dX4_drop_22 ?_
    exact x_zret C (by first | exact Or.inl rfl | exact Or.inr rfl | assumption) (po_i _ _ _ _ _ _) dX4_drop_23
  · skip
    exact absurd rfl h10

set_option maxRecDepth 100000 in
set_option maxHeartbeats 4000000 in
theorem c_X4_cancel (l : Launch) (D : va_G) (dA : Nat → ClassId) (base n : Nat) (ad : Fa) (I : Fi) (J : Fj) (R : Fr) (hT : ST n R) (zs : Nat → Nat) (hH : HI I zs)  : CT l D dA base yX4_cancel cX4_cancel 1 (some .int) 1 0 0 [.ref (ad 11 0)] ad (Nn n) I J R (po (some (.int (nI (esum zs 5)))) ad (Nn n) (emS (up3 I 11 0 0 0) 5) J R) := by
  refine CT.of 0 (L0 := [some (.ref (ad 11 0))]) (by decide +kernel) rfl (Nat.le_of_ble_eq_true rfl) ?_
  intro p e s m args below meth c C
  refine x_aload_n C dX4_cancel_0 rfl ?_
  refine x_iconst C 0 (by decide) dX4_cancel_1 ?_
  refine x_putI C g_X4_75 rfl (by first | assumption | exact Nat.one_pos) dX4_cancel_2 ?_
  refine x_aload_n C dX4_cancel_5 rfl ?_
  refine x_cV1 C yo_X4_empty m_X4_93 rfl rfl (by first | assumption | exact Nat.one_pos) (c_X4_empty l D dA base n ad (up3 I 11 0 0 0) J R hT zs (hH.up (by decide))) dX4_cancel_6 rfl rfl (Nat.le_of_ble_eq_true rfl) ⟨by decide, by decide⟩ ⟨by decide, by decide⟩ ?_
  exact x_iret C (po_i _ _ _ _ _ _) dX4_cancel_9

set_option maxRecDepth 100000 in
set_option maxHeartbeats 4000000 in
theorem c_X4_ring_in (l : Launch) (D : va_G) (dA : Nat → ClassId) (base n : Nat) (ad : Fa) (I : Fi) (J : Fj) (R : Fr) (hT : ST n R) (k z : Nat) (hz : I 11 0 23 = nI z) (hz40 : z ≤ 40) (hk : k < z) : CT l D dA base yX4_ring cX4_ring 2 (some .int) 0 0 0 [.ref (ad 11 0), .int (nI k)] ad (Nn n) I J R (po (some (.int (I 42 0 k))) ad (Nn n) (up3 I 11 0 0 0) J R) := by
  refine CT.of 0 (L0 := [some (.ref (ad 11 0)), some (.int (nI k))]) (by decide +kernel) rfl (Nat.le_of_ble_eq_true rfl) ?_
  intro p e s m args below meth c C
  refine x_aload_n C dX4_ring_0 rfl ?_
  refine x_iconst C 0 (by decide) dX4_ring_1 ?_
  refine x_putI C g_X4_75 rfl (by first | assumption | exact Nat.one_pos) dX4_ring_2 ?_
  refine x_iload_n C dX4_ring_5 rfl ?_
  refine x_if_lt C 17 dX4_ring_6 (by decide) (fun h6 => ?_) (fun h6 => ?_)
  · skip
    exact absurd h6 (nI_pos (by omega))
  · skip
    refine x_iload_n C dX4_ring_9 rfl ?_
    refine x_aload_n C dX4_ring_10 rfl ?_
    refine x_getI C f_X4_108 rfl (by first | assumption | exact Nat.one_pos) dX4_ring_11 ?_
    try simp only [up3_r, Nat.reduceEqDiff, and_false, false_and, and_self, and_true, true_and, reduceIte]
    refine x_icmp_lt C 21 dX4_ring_14 (by decide) (fun h14 => ?_) (fun h14 => ?_)
    · skip
      refine x_aload_n C dX4_ring_21 rfl ?_
      refine x_getF C hT f_X4_69 rfl rfl (by first | assumption | exact Nat.one_pos) dX4_ring_22 ?_
      refine x_iload_n C dX4_ring_25 rfl ?_
      refine x_ialdN C (k) rfl rfl rfl (by first | assumption | exact Nat.one_pos) (by omega) (by decide) dX4_ring_26 ?_
      try simp only [up3_r, Nat.reduceEqDiff, and_false, false_and, and_self, and_true, true_and, reduceIte]
      exact x_iret C (po_i _ _ _ _ _ _) dX4_ring_27
    · skip
      rw [hz] at h14
      exact absurd (nI_lt hk (by omega)) h14

set_option maxRecDepth 100000 in
set_option maxHeartbeats 4000000 in
theorem c_X4_ring_out (l : Launch) (D : va_G) (dA : Nat → ClassId) (base n : Nat) (ad : Fa) (I : Fi) (J : Fj) (R : Fr) (hT : ST n R) (x : Int32) (z : Nat) (hz : I 11 0 23 = nI z) (hx : x < 0 ∨ nI z ≤ x) : CT l D dA base yX4_ring cX4_ring 2 (some .int) 0 0 0 [.ref (ad 11 0), .int x] ad (Nn n) I J R (po (some (.int (-1))) ad (Nn n) (up3 I 11 0 0 0) J R) := by
  refine CT.of 0 (L0 := [some (.ref (ad 11 0)), some (.int x)]) (by decide +kernel) rfl (Nat.le_of_ble_eq_true rfl) ?_
  intro p e s m args below meth c C
  refine x_aload_n C dX4_ring_0 rfl ?_
  refine x_iconst C 0 (by decide) dX4_ring_1 ?_
  refine x_putI C g_X4_75 rfl (by first | assumption | exact Nat.one_pos) dX4_ring_2 ?_
  refine x_iload_n C dX4_ring_5 rfl ?_
  refine x_if_lt C 17 dX4_ring_6 (by decide) (fun h6 => ?_) (fun h6 => ?_)
  · skip
    refine x_iconst C (-1) (by decide) dX4_ring_17 ?_
    refine x_goto C 27 dX4_ring_18 (by decide) ?_
    exact x_iret C (po_i _ _ _ _ _ _) dX4_ring_27
  · skip
    refine x_iload_n C dX4_ring_9 rfl ?_
    refine x_aload_n C dX4_ring_10 rfl ?_
    refine x_getI C f_X4_108 rfl (by first | assumption | exact Nat.one_pos) dX4_ring_11 ?_
    try simp only [up3_r, Nat.reduceEqDiff, and_false, false_and, and_self, and_true, true_and, reduceIte]
    refine x_icmp_lt C 21 dX4_ring_14 (by decide) (fun h14 => ?_) (fun h14 => ?_)
    · skip
      rw [hz] at h14
      exact absurd h14 (hx.elim (fun q => absurd q h6) (fun q => Int32.not_lt.mpr q))
    · skip
      refine x_iconst C (-1) (by decide) dX4_ring_17 ?_
      refine x_goto C 27 dX4_ring_18 (by decide) ?_
      exact x_iret C (po_i _ _ _ _ _ _) dX4_ring_27

set_option maxRecDepth 100000 in
set_option maxHeartbeats 4000000 in
theorem c_X4_change_out (l : Launch) (D : va_G) (dA : Nat → ClassId) (base n : Nat) (ad : Fa) (I : Fi) (J : Fj) (R : Fr) (hT : ST n R) (hM : MG n I) (x : Int32) (hx : x < 0 ∨ nI n ≤ x) (v : Int64) : CT l D dA base yX4_change cX4_change 4 (some .int) 2 0 0 [.ref (ad 11 0), .int x, .long v] ad (Nn n) I J R (po (some (.int (-1))) ad (Nn n) (up3 I 11 0 0 0) J R) := by
  refine CT.of 0 (L0 := [some (.ref (ad 11 0)), some (.int x), some (.long v), none]) (by decide +kernel) rfl (Nat.le_of_ble_eq_true rfl) ?_
  intro p e s m args below meth c C
  refine x_aload_n C dX4_change_0 rfl ?_
  refine x_iconst C 0 (by decide) dX4_change_1 ?_
  refine x_putI C g_X4_75 rfl (by first | assumption | exact Nat.one_pos) dX4_change_2 ?_
  refine x_aload_n C dX4_change_5 rfl ?_
  refine x_iload_n C dX4_change_6 rfl ?_
  refine x_cV1 C yo_X4_isLeaf m_X4_101 rfl rfl (by first | assumption | exact Nat.one_pos) (c_X4_isLeaf_out l D dA base n ad (up3 I 11 0 0 0) J R hT (hM.up (by decide)) x hx) dX4_change_7 rfl rfl (Nat.le_of_ble_eq_true rfl) ⟨by decide, by decide⟩ ⟨by decide, by decide⟩ ?_
  refine x_if_ne C 15 dX4_change_10 (by decide) (fun h10 => ?_) (fun h10 => ?_)
  · skip
    exact absurd rfl h10
  · skip
    refine x_iconst C (-1) (by decide) dX4_change_13 ?_
    exact x_iret C (po_i _ _ _ _ _ _) dX4_change_14

set_option maxRecDepth 100000 in
set_option maxHeartbeats 4000000 in
theorem c_X4_change_no (l : Launch) (D : va_G) (dA : Nat → ClassId) (base n : Nat) (ad : Fa) (I : Fi) (J : Fj) (R : Fr) (hT : ST n R) (hM : MG n I) (k : Nat) (hk : k < n) (v : Int64) (hf : ¬ I 23 0 k = -1) : CT l D dA base yX4_change cX4_change 4 (some .int) 2 0 0 [.ref (ad 11 0), .int (nI k), .long v] ad (Nn n) I J R (po (some (.int (-1))) ad (Nn n) (up3 I 11 0 0 0) J R) := by
  refine CT.of 0 (L0 := [some (.ref (ad 11 0)), some (.int (nI k)), some (.long v), none]) (by decide +kernel) rfl (Nat.le_of_ble_eq_true rfl) ?_
  intro p e s m args below meth c C
  refine x_aload_n C dX4_change_0 rfl ?_
  refine x_iconst C 0 (by decide) dX4_change_1 ?_
  refine x_putI C g_X4_75 rfl (by first | assumption | exact Nat.one_pos) dX4_change_2 ?_
  refine x_aload_n C dX4_change_5 rfl ?_
  refine x_iload_n C dX4_change_6 rfl ?_
  refine x_cV1 C yo_X4_isLeaf m_X4_101 rfl rfl (by first | assumption | exact Nat.one_pos) (c_X4_isLeaf_in l D dA base n ad (up3 I 11 0 0 0) J R hT (hM.up (by decide)) k hk) dX4_change_7 rfl rfl (Nat.le_of_ble_eq_true rfl) ⟨by decide, by decide⟩ ⟨by decide, by decide⟩ ?_
  refine x_if_ne C 15 dX4_change_10 (by decide) (fun h10 => ?_) (fun h10 => ?_)
  · skip
    rw [if_neg (by simpa [up3] using hf)] at h10
    exact absurd rfl h10
  · skip
    refine x_iconst C (-1) (by decide) dX4_change_13 ?_
    exact x_iret C (po_i _ _ _ _ _ _) dX4_change_14

set_option maxRecDepth 100000 in
set_option maxHeartbeats 4000000 in
theorem c_X4_change_same (l : Launch) (D : va_G) (dA : Nat → ClassId) (base n : Nat) (ad : Fa) (I : Fi) (J : Fj) (R : Fr) (hT : ST n R) (hM : MG n I) (k : Nat) (hk : k < n) (v : Int64) (hf : I 23 0 k = -1) (hv : J 34 0 k = v) : CT l D dA base yX4_change cX4_change 4 (some .int) 2 0 0 [.ref (ad 11 0), .int (nI k), .long v] ad (Nn n) I J R (po (some (.int (I 11 0 1))) ad (Nn n) (up3 I 11 0 0 0) J R) := by
  refine CT.of 0 (L0 := [some (.ref (ad 11 0)), some (.int (nI k)), some (.long v), none]) (by decide +kernel) rfl (Nat.le_of_ble_eq_true rfl) ?_
  intro p e s m args below meth c C
  have hk40 : k < 40 := Nat.lt_of_lt_of_le hk hM.2
  refine x_aload_n C dX4_change_0 rfl ?_
  refine x_iconst C 0 (by decide) dX4_change_1 ?_
  refine x_putI C g_X4_75 rfl (by first | assumption | exact Nat.one_pos) dX4_change_2 ?_
  refine x_aload_n C dX4_change_5 rfl ?_
  refine x_iload_n C dX4_change_6 rfl ?_
  refine x_cV1 C yo_X4_isLeaf m_X4_101 rfl rfl (by first | assumption | exact Nat.one_pos) (c_X4_isLeaf_in l D dA base n ad (up3 I 11 0 0 0) J R hT (hM.up (by decide)) k hk) dX4_change_7 rfl rfl (Nat.le_of_ble_eq_true rfl) ⟨by decide, by decide⟩ ⟨by decide, by decide⟩ ?_
  refine x_if_ne C 15 dX4_change_10 (by decide) (fun h10 => ?_) (fun h10 => ?_)
  · skip
    refine x_aload_n C dX4_change_15 rfl ?_
    refine x_getF C hT f_X4_43 rfl rfl (by first | assumption | exact Nat.one_pos) dX4_change_16 ?_
    refine x_iload_n C dX4_change_19 rfl ?_
    refine x_laldN C (k) rfl rfl rfl (by first | assumption | exact Nat.one_pos) hk40 (by decide) dX4_change_20 ?_
    try simp only [up3_r, Nat.reduceEqDiff, and_false, false_and, and_self, and_true, true_and, reduceIte]
    refine x_lload_n C dX4_change_21 rfl ?_
    refine x_lcmp C dX4_change_22 ?_
    refine x_if_eq C 43 dX4_change_23 (by decide) (fun h23 => ?_) (fun h23 => ?_)
    · skip
      refine x_aload_n C dX4_change_43 rfl ?_
      refine x_getI C f_X4_86 rfl (by first | assumption | exact Nat.one_pos) dX4_change_44 ?_
      try simp only [up3_r, Nat.reduceEqDiff, and_false, false_and, and_self, and_true, true_and, reduceIte]
      exact x_iret C (po_i _ _ _ _ _ _) dX4_change_47
    · skip
      rw [lg_cmp_eq] at h23
      exact absurd hv h23
  · skip
    rw [if_pos (by simpa [up3] using hf)] at h10
    exact absurd h10 (by decide)

theorem nxI_v (I : Fi) : nxI I 11 0 1 = I 11 0 1 + 1 := by rw [nxI, up3_s]
theorem c0_v (I : Fi) : (up3 I 11 0 0 0) 11 0 1 = I 11 0 1 := by simp [up3]
set_option maxRecDepth 100000 in
set_option maxHeartbeats 4000000 in
theorem c_X4_change_yes (l : Launch) (D : va_G) (dA : Nat → ClassId) (base n : Nat) (ad : Fa) (I : Fi) (J : Fj) (R : Fr) (hT : ST n R) (hM : MG n I) (k : Nat) (hk : k < n) (v : Int64) (zs : Nat → Nat) (hH : HI I zs) (hf : I 23 0 k = -1) (hv : ¬ J 34 0 k = v) : CT l D dA base yX4_change cX4_change 4 (some .int) 2 0 0 [.ref (ad 11 0), .int (nI k), .long v] ad (Nn n) I J R (po (some (.int (I 11 0 1 + 1))) ad (Nn n) (up3 (nxI (up3 I 11 0 0 0)) 28 0 k (I 11 0 1 + 1)) (up3 J 34 0 k v) R) := by
  refine CT.of 0 (L0 := [some (.ref (ad 11 0)), some (.int (nI k)), some (.long v), none]) (by decide +kernel) rfl (Nat.le_of_ble_eq_true rfl) ?_
  intro p e s m args below meth c C
  have hk40 : k < 40 := Nat.lt_of_lt_of_le hk hM.2
  refine x_aload_n C dX4_change_0 rfl ?_
  refine x_iconst C 0 (by decide) dX4_change_1 ?_
  refine x_putI C g_X4_75 rfl (by first | assumption | exact Nat.one_pos) dX4_change_2 ?_
  refine x_aload_n C dX4_change_5 rfl ?_
  refine x_iload_n C dX4_change_6 rfl ?_
  refine x_cV1 C yo_X4_isLeaf m_X4_101 rfl rfl (by first | assumption | exact Nat.one_pos) (c_X4_isLeaf_in l D dA base n ad (up3 I 11 0 0 0) J R hT (hM.up (by decide)) k hk) dX4_change_7 rfl rfl (Nat.le_of_ble_eq_true rfl) ⟨by decide, by decide⟩ ⟨by decide, by decide⟩ ?_
  refine x_if_ne C 15 dX4_change_10 (by decide) (fun h10 => ?_) (fun h10 => ?_)
  · skip
    refine x_aload_n C dX4_change_15 rfl ?_
    refine x_getF C hT f_X4_43 rfl rfl (by first | assumption | exact Nat.one_pos) dX4_change_16 ?_
    refine x_iload_n C dX4_change_19 rfl ?_
    refine x_laldN C (k) rfl rfl rfl (by first | assumption | exact Nat.one_pos) hk40 (by decide) dX4_change_20 ?_
    refine x_lload_n C dX4_change_21 rfl ?_
    refine x_lcmp C dX4_change_22 ?_
    refine x_if_eq C 43 dX4_change_23 (by decide) (fun h23 => ?_) (fun h23 => ?_)
    · skip
      rw [lg_cmp_eq] at h23
      exact absurd h23 hv
    · skip
      refine x_aload_n C dX4_change_26 rfl ?_
      refine x_getF C hT f_X4_43 rfl rfl (by first | assumption | exact Nat.one_pos) dX4_change_27 ?_
      refine x_iload_n C dX4_change_30 rfl ?_
      refine x_lload_n C dX4_change_31 rfl ?_
      refine x_lastN C (k) rfl rfl rfl (by first | assumption | exact Nat.one_pos) hk40 (by decide) dX4_change_32 ?_
      refine x_aload_n C dX4_change_33 rfl ?_
      refine x_getF C hT f_X4_25 rfl rfl (by first | assumption | exact Nat.one_pos) dX4_change_34 ?_
      refine x_iload_n C dX4_change_37 rfl ?_
      refine x_aload_n C dX4_change_38 rfl ?_
      refine x_cV1 C yo_X4_next m_X4_114 rfl rfl (by first | assumption | exact Nat.one_pos) (c_X4_next l D dA base n ad (up3 I 11 0 0 0) (up3 J 34 0 k v) R hT zs (hH.up (by decide))) dX4_change_39 rfl rfl (Nat.le_of_ble_eq_true rfl) ⟨by decide, by decide⟩ ⟨by decide, by decide⟩ ?_
      refine x_iastN C (k) rfl rfl rfl (by first | assumption | exact Nat.one_pos) hk40 (by decide) dX4_change_42 ?_
      refine x_aload_n C dX4_change_43 rfl ?_
      refine x_getI C f_X4_86 rfl (by first | assumption | exact Nat.one_pos) dX4_change_44 ?_
      exact x_iret C (⟨by rw [up3_c _ _ _ _ _ (by decide), nxI_v, c0_v], rfl, rfl, by rw [c0_v], rfl, rfl⟩) dX4_change_47
  · skip
    rw [if_pos (by simpa [up3] using hf)] at h10
    exact absurd h10 (by decide)

set_option maxRecDepth 100000 in
set_option maxHeartbeats 4000000 in
theorem c_X4_spoil_out (l : Launch) (D : va_G) (dA : Nat → ClassId) (base n : Nat) (ad : Fa) (I : Fi) (J : Fj) (R : Fr) (hT : ST n R) (hM : MG n I) (x : Int32) (hx : x < 0 ∨ nI n ≤ x) (b : Int32) (hb : b = 0 ∨ b = 1)  : CT l D dA base yX4_spoil cX4_spoil 3 (some .int) 2 0 0 [.ref (ad 11 0), .int x, .int b] ad (Nn n) I J R (po (some (.int (-1))) ad (Nn n) (up3 I 11 0 0 0) J R) := by
  refine CT.of 0 (L0 := [some (.ref (ad 11 0)), some (.int x), some (.int b)]) (by decide +kernel) rfl (Nat.le_of_ble_eq_true rfl) ?_
  intro p e s m args below meth c C
  refine x_aload_n C dX4_spoil_0 rfl ?_
  refine x_iconst C 0 (by decide) dX4_spoil_1 ?_
  refine x_putI C g_X4_75 rfl (by first | assumption | exact Nat.one_pos) dX4_spoil_2 ?_
  refine x_aload_n C dX4_spoil_5 rfl ?_
  refine x_iload_n C dX4_spoil_6 rfl ?_
  refine x_cV1 C yo_X4_isKey m_X4_82 rfl rfl (by first | assumption | exact Nat.one_pos) (c_X4_isKey_out l D dA base n ad (up3 I 11 0 0 0) J R hT (hM.up (by decide)) x hx) dX4_spoil_7 rfl rfl (Nat.le_of_ble_eq_true rfl) ⟨by decide, by decide⟩ ⟨by decide, by decide⟩ ?_
  refine x_if_eq C 21 dX4_spoil_10 (by decide) (fun h10 => ?_) (fun h10 => ?_)
  · skip
    refine x_iconst C (-1) (by decide) dX4_spoil_21 ?_
    exact x_iret C (po_i _ _ _ _ _ _) dX4_spoil_22
  · skip
    exact absurd rfl h10

set_option maxRecDepth 100000 in
set_option maxHeartbeats 4000000 in
theorem c_X4_spoil_leaf (l : Launch) (D : va_G) (dA : Nat → ClassId) (base n : Nat) (ad : Fa) (I : Fi) (J : Fj) (R : Fr) (hT : ST n R) (hM : MG n I) (k : Nat) (hk : k < n) (b : Int32) (hb : b = 0 ∨ b = 1) (hf : I 23 0 k = -1) : CT l D dA base yX4_spoil cX4_spoil 3 (some .int) 2 0 0 [.ref (ad 11 0), .int (nI k), .int b] ad (Nn n) I J R (po (some (.int (-1))) ad (Nn n) (up3 I 11 0 0 0) J R) := by
  refine CT.of 0 (L0 := [some (.ref (ad 11 0)), some (.int (nI k)), some (.int b)]) (by decide +kernel) rfl (Nat.le_of_ble_eq_true rfl) ?_
  intro p e s m args below meth c C
  refine x_aload_n C dX4_spoil_0 rfl ?_
  refine x_iconst C 0 (by decide) dX4_spoil_1 ?_
  refine x_putI C g_X4_75 rfl (by first | assumption | exact Nat.one_pos) dX4_spoil_2 ?_
  refine x_aload_n C dX4_spoil_5 rfl ?_
  refine x_iload_n C dX4_spoil_6 rfl ?_
  refine x_cV1 C yo_X4_isKey m_X4_82 rfl rfl (by first | assumption | exact Nat.one_pos) (c_X4_isKey_in l D dA base n ad (up3 I 11 0 0 0) J R hT (hM.up (by decide)) k hk) dX4_spoil_7 rfl rfl (Nat.le_of_ble_eq_true rfl) ⟨by decide, by decide⟩ ⟨by decide, by decide⟩ ?_
  refine x_if_eq C 21 dX4_spoil_10 (by decide) (fun h10 => ?_) (fun h10 => ?_)
  · skip
    exact absurd h10 (by decide)
  · skip
    refine x_aload_n C dX4_spoil_13 rfl ?_
    refine x_iload_n C dX4_spoil_14 rfl ?_
    refine x_cV1 C yo_X4_isLeaf m_X4_101 rfl rfl (by first | assumption | exact Nat.one_pos) (c_X4_isLeaf_in l D dA base n ad (up3 I 11 0 0 0) J R hT (hM.up (by decide)) k hk) dX4_spoil_15 rfl rfl (Nat.le_of_ble_eq_true rfl) ⟨by decide, by decide⟩ ⟨by decide, by decide⟩ ?_
    refine x_if_eq C 23 dX4_spoil_18 (by decide) (fun h18 => ?_) (fun h18 => ?_)
    · skip
      rw [if_pos (by simpa [up3] using hf)] at h18
      exact absurd h18 (by decide)
    · skip
      refine x_iconst C (-1) (by decide) dX4_spoil_21 ?_
      exact x_iret C (po_i _ _ _ _ _ _) dX4_spoil_22

set_option maxRecDepth 100000 in
set_option maxHeartbeats 4000000 in
theorem c_X4_spoil_same (l : Launch) (D : va_G) (dA : Nat → ClassId) (base n : Nat) (ad : Fa) (I : Fi) (J : Fj) (R : Fr) (hT : ST n R) (hM : MG n I) (k : Nat) (hk : k < n) (b : Int32) (hb : b = 0 ∨ b = 1) (hf : ¬ I 23 0 k = -1) (he : I 35 0 k = b) : CT l D dA base yX4_spoil cX4_spoil 3 (some .int) 2 0 0 [.ref (ad 11 0), .int (nI k), .int b] ad (Nn n) I J R (po (some (.int (I 11 0 1))) ad (Nn n) (up3 I 11 0 0 0) J R) := by
  refine CT.of 0 (L0 := [some (.ref (ad 11 0)), some (.int (nI k)), some (.int b)]) (by decide +kernel) rfl (Nat.le_of_ble_eq_true rfl) ?_
  intro p e s m args below meth c C
  have hk40 : k < 40 := Nat.lt_of_lt_of_le hk hM.2
  refine x_aload_n C dX4_spoil_0 rfl ?_
  refine x_iconst C 0 (by decide) dX4_spoil_1 ?_
  refine x_putI C g_X4_75 rfl (by first | assumption | exact Nat.one_pos) dX4_spoil_2 ?_
  refine x_aload_n C dX4_spoil_5 rfl ?_
  refine x_iload_n C dX4_spoil_6 rfl ?_
  refine x_cV1 C yo_X4_isKey m_X4_82 rfl rfl (by first | assumption | exact Nat.one_pos) (c_X4_isKey_in l D dA base n ad (up3 I 11 0 0 0) J R hT (hM.up (by decide)) k hk) dX4_spoil_7 rfl rfl (Nat.le_of_ble_eq_true rfl) ⟨by decide, by decide⟩ ⟨by decide, by decide⟩ ?_
  refine x_if_eq C 21 dX4_spoil_10 (by decide) (fun h10 => ?_) (fun h10 => ?_)
  · skip
    exact absurd h10 (by decide)
  · skip
    refine x_aload_n C dX4_spoil_13 rfl ?_
    refine x_iload_n C dX4_spoil_14 rfl ?_
    refine x_cV1 C yo_X4_isLeaf m_X4_101 rfl rfl (by first | assumption | exact Nat.one_pos) (c_X4_isLeaf_in l D dA base n ad (up3 I 11 0 0 0) J R hT (hM.up (by decide)) k hk) dX4_spoil_15 rfl rfl (Nat.le_of_ble_eq_true rfl) ⟨by decide, by decide⟩ ⟨by decide, by decide⟩ ?_
    refine x_if_eq C 23 dX4_spoil_18 (by decide) (fun h18 => ?_) (fun h18 => ?_)
    · skip
      refine x_aload_n C dX4_spoil_23 rfl ?_
      refine x_getF C hT f_X4_47 rfl rfl (by first | assumption | exact Nat.one_pos) dX4_spoil_24 ?_
      refine x_iload_n C dX4_spoil_27 rfl ?_
      refine x_zaldN C (k) rfl rfl rfl (by first | assumption | exact Nat.one_pos) hk40 (by decide) dX4_spoil_28 ?_
      try simp only [up3_r, Nat.reduceEqDiff, and_false, false_and, and_self, and_true, true_and, reduceIte]
      refine x_iload_n C dX4_spoil_29 rfl ?_
      refine x_icmp_eq C 50 dX4_spoil_30 (by decide) (fun h30 => ?_) (fun h30 => ?_)
      · skip
        refine x_aload_n C dX4_spoil_50 rfl ?_
        refine x_getI C f_X4_86 rfl (by first | assumption | exact Nat.one_pos) dX4_spoil_51 ?_
        try simp only [up3_r, Nat.reduceEqDiff, and_false, false_and, and_self, and_true, true_and, reduceIte]
        exact x_iret C (po_i _ _ _ _ _ _) dX4_spoil_54
      · skip
        exact absurd he h30
    · skip
      rw [if_neg (by simpa [up3] using hf)] at h18
      exact absurd rfl h18

set_option maxRecDepth 100000 in
set_option maxHeartbeats 4000000 in
theorem c_X4_spoil_yes (l : Launch) (D : va_G) (dA : Nat → ClassId) (base n : Nat) (ad : Fa) (I : Fi) (J : Fj) (R : Fr) (hT : ST n R) (hM : MG n I) (k : Nat) (hk : k < n) (b : Int32) (hb : b = 0 ∨ b = 1) (zs : Nat → Nat) (hH : HI I zs) (hf : ¬ I 23 0 k = -1) (he : ¬ I 35 0 k = b) : CT l D dA base yX4_spoil cX4_spoil 3 (some .int) 2 0 0 [.ref (ad 11 0), .int (nI k), .int b] ad (Nn n) I J R (po (some (.int (I 11 0 1 + 1))) ad (Nn n) (up3 (nxI (up3 (up3 I 11 0 0 0) 35 0 k b)) 29 0 k (I 11 0 1 + 1)) J R) := by
  refine CT.of 0 (L0 := [some (.ref (ad 11 0)), some (.int (nI k)), some (.int b)]) (by decide +kernel) rfl (Nat.le_of_ble_eq_true rfl) ?_
  intro p e s m args below meth c C
  have hk40 : k < 40 := Nat.lt_of_lt_of_le hk hM.2
  refine x_aload_n C dX4_spoil_0 rfl ?_
  refine x_iconst C 0 (by decide) dX4_spoil_1 ?_
  refine x_putI C g_X4_75 rfl (by first | assumption | exact Nat.one_pos) dX4_spoil_2 ?_
  refine x_aload_n C dX4_spoil_5 rfl ?_
  refine x_iload_n C dX4_spoil_6 rfl ?_
  refine x_cV1 C yo_X4_isKey m_X4_82 rfl rfl (by first | assumption | exact Nat.one_pos) (c_X4_isKey_in l D dA base n ad (up3 I 11 0 0 0) J R hT (hM.up (by decide)) k hk) dX4_spoil_7 rfl rfl (Nat.le_of_ble_eq_true rfl) ⟨by decide, by decide⟩ ⟨by decide, by decide⟩ ?_
  refine x_if_eq C 21 dX4_spoil_10 (by decide) (fun h10 => ?_) (fun h10 => ?_)
  · skip
    exact absurd h10 (by decide)
  · skip
    refine x_aload_n C dX4_spoil_13 rfl ?_
    refine x_iload_n C dX4_spoil_14 rfl ?_
    refine x_cV1 C yo_X4_isLeaf m_X4_101 rfl rfl (by first | assumption | exact Nat.one_pos) (c_X4_isLeaf_in l D dA base n ad (up3 I 11 0 0 0) J R hT (hM.up (by decide)) k hk) dX4_spoil_15 rfl rfl (Nat.le_of_ble_eq_true rfl) ⟨by decide, by decide⟩ ⟨by decide, by decide⟩ ?_
    refine x_if_eq C 23 dX4_spoil_18 (by decide) (fun h18 => ?_) (fun h18 => ?_)
    · skip
      refine x_aload_n C dX4_spoil_23 rfl ?_
      refine x_getF C hT f_X4_47 rfl rfl (by first | assumption | exact Nat.one_pos) dX4_spoil_24 ?_
      refine x_iload_n C dX4_spoil_27 rfl ?_
      refine x_zaldN C (k) rfl rfl rfl (by first | assumption | exact Nat.one_pos) hk40 (by decide) dX4_spoil_28 ?_
      refine x_iload_n C dX4_spoil_29 rfl ?_
      try simp only [up3_r, Nat.reduceEqDiff, and_false, false_and, reduceIte]
      refine x_icmp_eq C 50 dX4_spoil_30 (by decide) (fun h30 => ?_) (fun h30 => ?_)
      · skip
        exact absurd h30 he
      · skip
        refine x_aload_n C dX4_spoil_33 rfl ?_
        refine x_getF C hT f_X4_47 rfl rfl (by first | assumption | exact Nat.one_pos) dX4_spoil_34 ?_
        refine x_iload_n C dX4_spoil_37 rfl ?_
        refine x_iload_n C dX4_spoil_38 rfl ?_
        refine x_zastN C (k) rfl rfl rfl (by first | assumption | exact Nat.one_pos) hk40 (by decide) hb dX4_spoil_39 ?_
        refine x_aload_n C dX4_spoil_40 rfl ?_
        refine x_getF C hT f_X4_28 rfl rfl (by first | assumption | exact Nat.one_pos) dX4_spoil_41 ?_
        refine x_iload_n C dX4_spoil_44 rfl ?_
        refine x_aload_n C dX4_spoil_45 rfl ?_
        refine x_cV1 C yo_X4_next m_X4_114 rfl rfl (by first | assumption | exact Nat.one_pos) (c_X4_next l D dA base n ad (up3 (up3 I 11 0 0 0) 35 0 k b) J R hT zs ((hH.up (by decide)).up (by decide))) dX4_spoil_46 rfl rfl (Nat.le_of_ble_eq_true rfl) ⟨by decide, by decide⟩ ⟨by decide, by decide⟩ ?_
        refine x_iastN C (k) rfl rfl rfl (by first | assumption | exact Nat.one_pos) hk40 (by decide) dX4_spoil_49 ?_
        refine x_aload_n C dX4_spoil_50 rfl ?_
        refine x_getI C f_X4_86 rfl (by first | assumption | exact Nat.one_pos) dX4_spoil_51 ?_
        exact x_iret C (⟨by rw [up3_c _ _ _ _ _ (by decide), nxI_v]; simp [up3], rfl, rfl, by simp [up3_r], rfl, rfl⟩) dX4_spoil_54
    · skip
      rw [if_neg (by simpa [up3] using hf)] at h18
      exact absurd rfl h18

set_option maxRecDepth 100000 in
set_option maxHeartbeats 4000000 in
theorem c_X4_begin_wkr (l : Launch) (D : va_G) (dA : Nat → ClassId) (base n : Nat) (ad : Fa) (I : Fi) (J : Fj) (R : Fr) (hT : ST n R) (w : Int32) (hw : ¬ (0 ≤ w ∧ w < 4)) (x : Int32) : CT l D dA base yX4_begin cX4_begin 3 (some .int) 1 0 0 [.ref (ad 11 0), .int w, .int x] ad (Nn n) I J R (po (some (.int (-1))) ad (Nn n) (up3 I 11 0 0 0) J R) := by
  refine CT.of 0 (L0 := [some (.ref (ad 11 0)), some (.int w), some (.int x)]) (by decide +kernel) rfl (Nat.le_of_ble_eq_true rfl) ?_
  intro p e s m args below meth c C
  refine x_aload_n C dX4_begin_0 rfl ?_
  refine x_iconst C 0 (by decide) dX4_begin_1 ?_
  refine x_putI C g_X4_75 rfl (by first | assumption | exact Nat.one_pos) dX4_begin_2 ?_
  refine x_iload_n C dX4_begin_5 rfl ?_
  refine x_cS1 C yo_X4_isWorker rfl m_X4_117 (c_X4_isWorker l D dA base n ad (up3 I 11 0 0 0) J R w) dX4_begin_6 rfl rfl (Nat.le_of_ble_eq_true rfl) ⟨by decide, by decide⟩ ⟨by decide, by decide⟩ ?_
  refine x_if_eq C 29 dX4_begin_9 (by decide) (fun h9 => ?_) (fun h9 => ?_)
  · skip
    refine x_iconst C (-1) (by decide) dX4_begin_29 ?_
    exact x_iret C (po_i _ _ _ _ _ _) dX4_begin_30
  · skip
    rw [if_neg hw] at h9
    exact absurd rfl h9

set_option maxRecDepth 100000 in
set_option maxHeartbeats 4000000 in
theorem c_X4_begin_key (l : Launch) (D : va_G) (dA : Nat → ClassId) (base n : Nat) (ad : Fa) (I : Fi) (J : Fj) (R : Fr) (hT : ST n R) (hM : MG n I) (x : Int32) (hx : x < 0 ∨ nI n ≤ x) (w : Nat) (hw : w < 4) : CT l D dA base yX4_begin cX4_begin 3 (some .int) 1 0 0 [.ref (ad 11 0), .int (nI w), .int x] ad (Nn n) I J R (po (some (.int (-1))) ad (Nn n) (up3 I 11 0 0 0) J R) := by
  refine CT.of 0 (L0 := [some (.ref (ad 11 0)), some (.int (nI w)), some (.int x)]) (by decide +kernel) rfl (Nat.le_of_ble_eq_true rfl) ?_
  intro p e s m args below meth c C
  refine x_aload_n C dX4_begin_0 rfl ?_
  refine x_iconst C 0 (by decide) dX4_begin_1 ?_
  refine x_putI C g_X4_75 rfl (by first | assumption | exact Nat.one_pos) dX4_begin_2 ?_
  refine x_iload_n C dX4_begin_5 rfl ?_
  refine x_cS1 C yo_X4_isWorker rfl m_X4_117 (c_X4_isWorker l D dA base n ad (up3 I 11 0 0 0) J R (nI w)) dX4_begin_6 rfl rfl (Nat.le_of_ble_eq_true rfl) ⟨by decide, by decide⟩ ⟨by decide, by decide⟩ ?_
  refine x_if_eq C 29 dX4_begin_9 (by decide) (fun h9 => ?_) (fun h9 => ?_)
  · skip
    rw [if_pos ⟨nI_pos' (by omega), nI_lt (b := 4) hw (by decide)⟩] at h9
    exact absurd h9 (by decide)
  · skip
    refine x_aload_n C dX4_begin_12 rfl ?_
    refine x_iload_n C dX4_begin_13 rfl ?_
    refine x_cV1 C yo_X4_isKey m_X4_82 rfl rfl (by first | assumption | exact Nat.one_pos) (c_X4_isKey_out l D dA base n ad (up3 I 11 0 0 0) J R hT (hM.up (by decide)) x hx) dX4_begin_14 rfl rfl (Nat.le_of_ble_eq_true rfl) ⟨by decide, by decide⟩ ⟨by decide, by decide⟩ ?_
    refine x_if_eq C 29 dX4_begin_17 (by decide) (fun h17 => ?_) (fun h17 => ?_)
    · skip
      refine x_iconst C (-1) (by decide) dX4_begin_29 ?_
      exact x_iret C (po_i _ _ _ _ _ _) dX4_begin_30
    · skip
      exact absurd rfl h17

set_option maxRecDepth 100000 in
set_option maxHeartbeats 4000000 in
theorem c_X4_begin_full (l : Launch) (D : va_G) (dA : Nat → ClassId) (base n : Nat) (ad : Fa) (I : Fi) (J : Fj) (R : Fr) (hT : ST n R) (hM : MG n I) (k : Nat) (hk : k < n) (w z : Nat) (hw : w < 4) (hs : I 37 0 w = nI z) (hz0 : 0 < z) (hz : z ≤ 40) : CT l D dA base yX4_begin cX4_begin 3 (some .int) 1 0 0 [.ref (ad 11 0), .int (nI w), .int (nI k)] ad (Nn n) I J R (po (some (.int (-1))) ad (Nn n) (up3 I 11 0 0 0) J R) := by
  refine CT.of 0 (L0 := [some (.ref (ad 11 0)), some (.int (nI w)), some (.int (nI k))]) (by decide +kernel) rfl (Nat.le_of_ble_eq_true rfl) ?_
  intro p e s m args below meth c C
  refine x_aload_n C dX4_begin_0 rfl ?_
  refine x_iconst C 0 (by decide) dX4_begin_1 ?_
  refine x_putI C g_X4_75 rfl (by first | assumption | exact Nat.one_pos) dX4_begin_2 ?_
  refine x_iload_n C dX4_begin_5 rfl ?_
  refine x_cS1 C yo_X4_isWorker rfl m_X4_117 (c_X4_isWorker l D dA base n ad (up3 I 11 0 0 0) J R (nI w)) dX4_begin_6 rfl rfl (Nat.le_of_ble_eq_true rfl) ⟨by decide, by decide⟩ ⟨by decide, by decide⟩ ?_
  refine x_if_eq C 29 dX4_begin_9 (by decide) (fun h9 => ?_) (fun h9 => ?_)
  · skip
    rw [if_pos ⟨nI_pos' (by omega), nI_lt (b := 4) hw (by decide)⟩] at h9
    exact absurd h9 (by decide)
  · skip
    refine x_aload_n C dX4_begin_12 rfl ?_
    refine x_iload_n C dX4_begin_13 rfl ?_
    refine x_cV1 C yo_X4_isKey m_X4_82 rfl rfl (by first | assumption | exact Nat.one_pos) (c_X4_isKey_in l D dA base n ad (up3 I 11 0 0 0) J R hT (hM.up (by decide)) k hk) dX4_begin_14 rfl rfl (Nat.le_of_ble_eq_true rfl) ⟨by decide, by decide⟩ ⟨by decide, by decide⟩ ?_
    refine x_if_eq C 29 dX4_begin_17 (by decide) (fun h17 => ?_) (fun h17 => ?_)
    · skip
      exact absurd h17 (by decide)
    · skip
      refine x_aload_n C dX4_begin_20 rfl ?_
      refine x_getF C hT f_X4_54 rfl rfl (by first | assumption | exact Nat.one_pos) dX4_begin_21 ?_
      refine x_iload_n C dX4_begin_24 rfl ?_
      refine x_ialdN C (w) rfl rfl rfl (by first | assumption | exact Nat.one_pos) (by omega) (by decide) dX4_begin_25 ?_
      try simp only [up3_r, Nat.reduceEqDiff, and_false, false_and, and_self, and_true, true_and, reduceIte]
      refine x_if_le C 31 dX4_begin_26 (by decide) (fun h26 => ?_) (fun h26 => ?_)
      · skip
        rw [hs] at h26
        exact absurd h26 (nI_nle hz0 (by omega))
      · skip
        refine x_iconst C (-1) (by decide) dX4_begin_29 ?_
        exact x_iret C (po_i _ _ _ _ _ _) dX4_begin_30

theorem pofJ_c (I I2 : Fi) (x : Int32) (p0 : Nat) (g : Int32) (h : ∀ q, I2 38 0 q = I 38 0 q) : ∀ t, pofJ I2 x p0 g t = pofJ I x p0 g t
  | 0 => rfl
  | t + 1 => by rw [pofJ, pofJ, h, pofJ_c I I2 x p0 g h t]
theorem pofP_c (I I2 : Fi) (x : Int32) (zs : Nat → Nat) (h : ∀ q, I2 38 0 q = I 38 0 q) : ∀ t, pofP I2 x zs t = pofP I x zs t
  | 0 => rfl
  | t + 1 => by rw [pofP, pofP, pofP_c I I2 x zs h t, pofJ_c I I2 _ _ _ h]
theorem pof_c (I : Fi) (x : Int32) (zs : Nat → Nat) : pofP (up3 I 11 0 0 0) x zs 5 = pofP I x zs 5 := pofP_c I _ x zs (fun q => by simp [up3]) 5
set_option maxRecDepth 100000 in
set_option maxHeartbeats 4000000 in
theorem c_X4_begin_has (l : Launch) (D : va_G) (dA : Nat → ClassId) (base n : Nat) (ad : Fa) (I : Fi) (J : Fj) (R : Fr) (hT : ST n R) (hM : MG n I) (k : Nat) (hk : k < n) (w : Nat) (hw : w < 4) (zs : Nat → Nat) (hH : HI I zs) (hz0 : zs w = 0) (hq : ¬ pofP I (nI k) zs 5 = -1) : CT l D dA base yX4_begin cX4_begin 3 (some .int) 1 0 0 [.ref (ad 11 0), .int (nI w), .int (nI k)] ad (Nn n) I J R (po (some (.int (-2))) ad (Nn n) (up3 I 11 0 0 0) J R) := by
  refine CT.of 0 (L0 := [some (.ref (ad 11 0)), some (.int (nI w)), some (.int (nI k))]) (by decide +kernel) rfl (Nat.le_of_ble_eq_true rfl) ?_
  intro p e s m args below meth c C
  have hk40 : k < 40 := Nat.lt_of_lt_of_le hk hM.2
  refine x_aload_n C dX4_begin_0 rfl ?_
  refine x_iconst C 0 (by decide) dX4_begin_1 ?_
  refine x_putI C g_X4_75 rfl (by first | assumption | exact Nat.one_pos) dX4_begin_2 ?_
  refine x_iload_n C dX4_begin_5 rfl ?_
  refine x_cS1 C yo_X4_isWorker rfl m_X4_117 (c_X4_isWorker l D dA base n ad (up3 I 11 0 0 0) J R (nI w)) dX4_begin_6 rfl rfl (Nat.le_of_ble_eq_true rfl) ⟨by decide, by decide⟩ ⟨by decide, by decide⟩ ?_
  refine x_if_eq C 29 dX4_begin_9 (by decide) (fun h9 => ?_) (fun h9 => ?_)
  · skip
    rw [if_pos ⟨nI_pos' (by omega), nI_lt (b := 4) hw (by decide)⟩] at h9
    exact absurd h9 (by decide)
  · skip
    refine x_aload_n C dX4_begin_12 rfl ?_
    refine x_iload_n C dX4_begin_13 rfl ?_
    refine x_cV1 C yo_X4_isKey m_X4_82 rfl rfl (by first | assumption | exact Nat.one_pos) (c_X4_isKey_in l D dA base n ad (up3 I 11 0 0 0) J R hT (hM.up (by decide)) k hk) dX4_begin_14 rfl rfl (Nat.le_of_ble_eq_true rfl) ⟨by decide, by decide⟩ ⟨by decide, by decide⟩ ?_
    refine x_if_eq C 29 dX4_begin_17 (by decide) (fun h17 => ?_) (fun h17 => ?_)
    · skip
      exact absurd h17 (by decide)
    · skip
      refine x_aload_n C dX4_begin_20 rfl ?_
      refine x_getF C hT f_X4_54 rfl rfl (by first | assumption | exact Nat.one_pos) dX4_begin_21 ?_
      refine x_iload_n C dX4_begin_24 rfl ?_
      refine x_ialdN C (w) rfl rfl rfl (by first | assumption | exact Nat.one_pos) (by omega) (by decide) dX4_begin_25 ?_
      try simp only [up3_r, Nat.reduceEqDiff, and_false, false_and, and_self, and_true, true_and, reduceIte]
      refine x_if_le C 31 dX4_begin_26 (by decide) (fun h26 => ?_) (fun h26 => ?_)
      · skip
        refine x_aload_n C dX4_begin_31 rfl ?_
        refine x_iload_n C dX4_begin_32 rfl ?_
        refine x_cV1 C yo_X4_pileOf m_X4_120 rfl rfl (by first | assumption | exact Nat.one_pos) (c_X4_pileOf l D dA base n ad (up3 I 11 0 0 0) J R hT (nI k) zs (hH.up (by decide))) dX4_begin_33 rfl rfl (Nat.le_of_ble_eq_true rfl) ⟨by decide, by decide⟩ ⟨by decide, by decide⟩ ?_
        refine x_iconst C (-1) (by decide) dX4_begin_36 ?_
        refine x_icmp_eq C 43 dX4_begin_37 (by decide) (fun h37 => ?_) (fun h37 => ?_)
        · skip
          rw [pof_c] at h37
          exact absurd h37 hq
        · skip
          refine x_bipush C (-2) (by decide) dX4_begin_40 ?_
          exact x_iret C (po_i _ _ _ _ _ _) dX4_begin_42
      · skip
        rw [(hH w (by omega)).1, hz0] at h26
        exact absurd (by decide) h26

set_option maxRecDepth 100000 in
set_option maxHeartbeats 4000000 in
theorem c_X4_begin_sure (l : Launch) (D : va_G) (dA : Nat → ClassId) (base n : Nat) (ad : Fa) (I : Fi) (J : Fj) (R : Fr) (hT : ST n R) (hM : MG n I) (k : Nat) (hk : k < n) (w : Nat) (hw : w < 4) (zs : Nat → Nat) (hH : HI I zs) (hz0 : zs w = 0) (hq : pofP I (nI k) zs 5 = -1) (hsu : msure I k = true) : CT l D dA base yX4_begin cX4_begin 3 (some .int) 1 0 0 [.ref (ad 11 0), .int (nI w), .int (nI k)] ad (Nn n) I J R (po (some (.int 0)) ad (Nn n) (up3 I 11 0 0 0) J R) := by
  refine CT.of 0 (L0 := [some (.ref (ad 11 0)), some (.int (nI w)), some (.int (nI k))]) (by decide +kernel) rfl (Nat.le_of_ble_eq_true rfl) ?_
  intro p e s m args below meth c C
  have hk40 : k < 40 := Nat.lt_of_lt_of_le hk hM.2
  refine x_aload_n C dX4_begin_0 rfl ?_
  refine x_iconst C 0 (by decide) dX4_begin_1 ?_
  refine x_putI C g_X4_75 rfl (by first | assumption | exact Nat.one_pos) dX4_begin_2 ?_
  refine x_iload_n C dX4_begin_5 rfl ?_
  refine x_cS1 C yo_X4_isWorker rfl m_X4_117 (c_X4_isWorker l D dA base n ad (up3 I 11 0 0 0) J R (nI w)) dX4_begin_6 rfl rfl (Nat.le_of_ble_eq_true rfl) ⟨by decide, by decide⟩ ⟨by decide, by decide⟩ ?_
  refine x_if_eq C 29 dX4_begin_9 (by decide) (fun h9 => ?_) (fun h9 => ?_)
  · skip
    rw [if_pos ⟨nI_pos' (by omega), nI_lt (b := 4) hw (by decide)⟩] at h9
    exact absurd h9 (by decide)
  · skip
    refine x_aload_n C dX4_begin_12 rfl ?_
    refine x_iload_n C dX4_begin_13 rfl ?_
    refine x_cV1 C yo_X4_isKey m_X4_82 rfl rfl (by first | assumption | exact Nat.one_pos) (c_X4_isKey_in l D dA base n ad (up3 I 11 0 0 0) J R hT (hM.up (by decide)) k hk) dX4_begin_14 rfl rfl (Nat.le_of_ble_eq_true rfl) ⟨by decide, by decide⟩ ⟨by decide, by decide⟩ ?_
    refine x_if_eq C 29 dX4_begin_17 (by decide) (fun h17 => ?_) (fun h17 => ?_)
    · skip
      exact absurd h17 (by decide)
    · skip
      refine x_aload_n C dX4_begin_20 rfl ?_
      refine x_getF C hT f_X4_54 rfl rfl (by first | assumption | exact Nat.one_pos) dX4_begin_21 ?_
      refine x_iload_n C dX4_begin_24 rfl ?_
      refine x_ialdN C (w) rfl rfl rfl (by first | assumption | exact Nat.one_pos) (by omega) (by decide) dX4_begin_25 ?_
      try simp only [up3_r, Nat.reduceEqDiff, and_false, false_and, and_self, and_true, true_and, reduceIte]
      refine x_if_le C 31 dX4_begin_26 (by decide) (fun h26 => ?_) (fun h26 => ?_)
      · skip
        refine x_aload_n C dX4_begin_31 rfl ?_
        refine x_iload_n C dX4_begin_32 rfl ?_
        refine x_cV1 C yo_X4_pileOf m_X4_120 rfl rfl (by first | assumption | exact Nat.one_pos) (c_X4_pileOf l D dA base n ad (up3 I 11 0 0 0) J R hT (nI k) zs (hH.up (by decide))) dX4_begin_33 rfl rfl (Nat.le_of_ble_eq_true rfl) ⟨by decide, by decide⟩ ⟨by decide, by decide⟩ ?_
        refine x_iconst C (-1) (by decide) dX4_begin_36 ?_
        refine x_icmp_eq C 43 dX4_begin_37 (by decide) (fun h37 => ?_) (fun h37 => ?_)
        · skip
          refine x_aload_n C dX4_begin_43 rfl ?_
          refine x_iload_n C dX4_begin_44 rfl ?_
          refine x_cV1 C yo_X4_isSure m_X4_123 rfl rfl (by first | assumption | exact Nat.one_pos) (c_X4_isSure l D dA base n ad (up3 I 11 0 0 0) J R hT k hk40) dX4_begin_45 rfl rfl (Nat.le_of_ble_eq_true rfl) ⟨by decide, by decide⟩ ⟨by decide, by decide⟩ ?_
          refine x_if_eq C 53 dX4_begin_48 (by decide) (fun h48 => ?_) (fun h48 => ?_)
          · skip
            rw [msure_c] at h48
            rw [hsu] at h48
            exact absurd h48 (by decide)
          · skip
            refine x_iconst C 0 (by decide) dX4_begin_51 ?_
            exact x_iret C (po_i _ _ _ _ _ _) dX4_begin_52
        · skip
          rw [pof_c] at h37
          exact absurd hq h37
      · skip
        rw [(hH w (by omega)).1, hz0] at h26
        exact absurd (by decide) h26

set_option maxRecDepth 100000 in
set_option maxHeartbeats 4000000 in
theorem c_X4_begin_yes (l : Launch) (D : va_G) (dA : Nat → ClassId) (base n : Nat) (ad : Fa) (I : Fi) (J : Fj) (R : Fr) (hT : ST n R) (hM : MG n I) (k : Nat) (hk : k < n) (w : Nat) (hw : w < 4) (zs : Nat → Nat) (hH : HI I zs) (hz0 : zs w = 0) (hq : pofP I (nI k) zs 5 = -1) (hsu : msure I k = false) : CT l D dA base yX4_begin cX4_begin 3 (some .int) 1 0 0 [.ref (ad 11 0), .int (nI w), .int (nI k)] ad (Nn n) I J R (po (some (.int 1)) ad (Nn n) (lyI (up3 I 11 0 0 0) w k 0) J R) := by
  refine CT.of 0 (L0 := [some (.ref (ad 11 0)), some (.int (nI w)), some (.int (nI k))]) (by decide +kernel) rfl (Nat.le_of_ble_eq_true rfl) ?_
  intro p e s m args below meth c C
  have hk40 : k < 40 := Nat.lt_of_lt_of_le hk hM.2
  refine x_aload_n C dX4_begin_0 rfl ?_
  refine x_iconst C 0 (by decide) dX4_begin_1 ?_
  refine x_putI C g_X4_75 rfl (by first | assumption | exact Nat.one_pos) dX4_begin_2 ?_
  refine x_iload_n C dX4_begin_5 rfl ?_
  refine x_cS1 C yo_X4_isWorker rfl m_X4_117 (c_X4_isWorker l D dA base n ad (up3 I 11 0 0 0) J R (nI w)) dX4_begin_6 rfl rfl (Nat.le_of_ble_eq_true rfl) ⟨by decide, by decide⟩ ⟨by decide, by decide⟩ ?_
  refine x_if_eq C 29 dX4_begin_9 (by decide) (fun h9 => ?_) (fun h9 => ?_)
  · skip
    rw [if_pos ⟨nI_pos' (by omega), nI_lt (b := 4) hw (by decide)⟩] at h9
    exact absurd h9 (by decide)
  · skip
    refine x_aload_n C dX4_begin_12 rfl ?_
    refine x_iload_n C dX4_begin_13 rfl ?_
    refine x_cV1 C yo_X4_isKey m_X4_82 rfl rfl (by first | assumption | exact Nat.one_pos) (c_X4_isKey_in l D dA base n ad (up3 I 11 0 0 0) J R hT (hM.up (by decide)) k hk) dX4_begin_14 rfl rfl (Nat.le_of_ble_eq_true rfl) ⟨by decide, by decide⟩ ⟨by decide, by decide⟩ ?_
    refine x_if_eq C 29 dX4_begin_17 (by decide) (fun h17 => ?_) (fun h17 => ?_)
    · skip
      exact absurd h17 (by decide)
    · skip
      refine x_aload_n C dX4_begin_20 rfl ?_
      refine x_getF C hT f_X4_54 rfl rfl (by first | assumption | exact Nat.one_pos) dX4_begin_21 ?_
      refine x_iload_n C dX4_begin_24 rfl ?_
      refine x_ialdN C (w) rfl rfl rfl (by first | assumption | exact Nat.one_pos) (by omega) (by decide) dX4_begin_25 ?_
      try simp only [up3_r, Nat.reduceEqDiff, and_false, false_and, and_self, and_true, true_and, reduceIte]
      refine x_if_le C 31 dX4_begin_26 (by decide) (fun h26 => ?_) (fun h26 => ?_)
      · skip
        refine x_aload_n C dX4_begin_31 rfl ?_
        refine x_iload_n C dX4_begin_32 rfl ?_
        refine x_cV1 C yo_X4_pileOf m_X4_120 rfl rfl (by first | assumption | exact Nat.one_pos) (c_X4_pileOf l D dA base n ad (up3 I 11 0 0 0) J R hT (nI k) zs (hH.up (by decide))) dX4_begin_33 rfl rfl (Nat.le_of_ble_eq_true rfl) ⟨by decide, by decide⟩ ⟨by decide, by decide⟩ ?_
        refine x_iconst C (-1) (by decide) dX4_begin_36 ?_
        refine x_icmp_eq C 43 dX4_begin_37 (by decide) (fun h37 => ?_) (fun h37 => ?_)
        · skip
          refine x_aload_n C dX4_begin_43 rfl ?_
          refine x_iload_n C dX4_begin_44 rfl ?_
          refine x_cV1 C yo_X4_isSure m_X4_123 rfl rfl (by first | assumption | exact Nat.one_pos) (c_X4_isSure l D dA base n ad (up3 I 11 0 0 0) J R hT k hk40) dX4_begin_45 rfl rfl (Nat.le_of_ble_eq_true rfl) ⟨by decide, by decide⟩ ⟨by decide, by decide⟩ ?_
          refine x_if_eq C 53 dX4_begin_48 (by decide) (fun h48 => ?_) (fun h48 => ?_)
          · skip
            refine x_aload_n C dX4_begin_53 rfl ?_
            refine x_iload_n C dX4_begin_54 rfl ?_
            refine x_iload_n C dX4_begin_55 rfl ?_
            refine x_cV0 C yo_X4_lay m_X4_126 rfl rfl (by first | assumption | exact Nat.one_pos) (c_X4_lay l D dA base n ad (up3 I 11 0 0 0) J R hT w k 0 (by omega) hk40 (by rw [up3_c _ _ _ _ _ (by decide), (hH w (by omega)).1, hz0]) (by decide)) dX4_begin_56 rfl rfl (Nat.le_of_ble_eq_true rfl) ⟨by decide, by decide⟩ ⟨by decide, by decide⟩ ?_
            refine x_iconst C 1 (by decide) dX4_begin_59 ?_
            exact x_iret C (po_i _ _ _ _ _ _) dX4_begin_60
          · skip
            rw [msure_c] at h48
            rw [hsu] at h48
            exact absurd rfl h48
        · skip
          rw [pof_c] at h37
          exact absurd hq h37
      · skip
        rw [(hH w (by omega)).1, hz0] at h26
        exact absurd (by decide) h26

set_option maxRecDepth 100000 in
set_option maxHeartbeats 4000000 in
theorem c_X4_step_no (l : Launch) (D : va_G) (dA : Nat → ClassId) (base n : Nat) (ad : Fa) (I : Fi) (J : Fj) (R : Fr) (hT : ST n R) (w : Int32) (hw : ¬ (0 ≤ w ∧ w < 4)) : CT l D dA base yX4_step cX4_step 2 (some .int) 4 0 0 [.ref (ad 11 0), .int w] ad (Nn n) I J R (po (some (.int (-1))) ad (Nn n) (up3 I 11 0 0 0) J R) := by
  refine CT.of 0 (L0 := [some (.ref (ad 11 0)), some (.int w)]) (by decide +kernel) rfl (Nat.le_of_ble_eq_true rfl) ?_
  intro p e s m args below meth c C
  refine x_aload_n C dX4_step_0 rfl ?_
  refine x_iconst C 0 (by decide) dX4_step_1 ?_
  refine x_putI C g_X4_75 rfl (by first | assumption | exact Nat.one_pos) dX4_step_2 ?_
  refine x_iload_n C dX4_step_5 rfl ?_
  refine x_cS1 C yo_X4_isWorker rfl m_X4_117 (c_X4_isWorker l D dA base n ad (up3 I 11 0 0 0) J R w) dX4_step_6 rfl rfl (Nat.le_of_ble_eq_true rfl) ⟨by decide, by decide⟩ ⟨by decide, by decide⟩ ?_
  refine x_if_eq C 20 dX4_step_9 (by decide) (fun h9 => ?_) (fun h9 => ?_)
  · skip
    refine x_iconst C (-1) (by decide) dX4_step_20 ?_
    exact x_iret C (po_i _ _ _ _ _ _) dX4_step_21
  · skip
    rw [if_neg hw] at h9
    exact absurd rfl h9

set_option maxRecDepth 100000 in
set_option maxHeartbeats 4000000 in
theorem c_X4_step_yes (l : Launch) (D : va_G) (dA : Nat → ClassId) (base n : Nat) (ad : Fa) (I : Fi) (J : Fj) (R : Fr) (hT : ST n R) (w : Nat) (hw : w < 4) (x : Int32) (I1 : Fi) (J1 : Fj) (R1 : Fr) (hg : CT l D dA base yX4_go cX4_go 5 (some .int) 3 0 0 [.ref (ad 11 0), .int (nI w)] ad (Nn n) (up3 I 11 0 0 0) J R (po (some (.int x)) ad (Nn n) I1 J1 R1)) : CT l D dA base yX4_step cX4_step 2 (some .int) 4 0 0 [.ref (ad 11 0), .int (nI w)] ad (Nn n) I J R (po (some (.int x)) ad (Nn n) I1 J1 R1) := by
  refine CT.of 0 (L0 := [some (.ref (ad 11 0)), some (.int (nI w))]) (by decide +kernel) rfl (Nat.le_of_ble_eq_true rfl) ?_
  intro p e s m args below meth c C
  refine x_aload_n C dX4_step_0 rfl ?_
  refine x_iconst C 0 (by decide) dX4_step_1 ?_
  refine x_putI C g_X4_75 rfl (by first | assumption | exact Nat.one_pos) dX4_step_2 ?_
  refine x_iload_n C dX4_step_5 rfl ?_
  refine x_cS1 C yo_X4_isWorker rfl m_X4_117 (c_X4_isWorker l D dA base n ad (up3 I 11 0 0 0) J R (nI w)) dX4_step_6 rfl rfl (Nat.le_of_ble_eq_true rfl) ⟨by decide, by decide⟩ ⟨by decide, by decide⟩ ?_
  refine x_if_eq C 20 dX4_step_9 (by decide) (fun h9 => ?_) (fun h9 => ?_)
  · skip
    rw [if_pos ⟨nI_pos' (by omega), nI_lt (b := 4) hw (by decide)⟩] at h9
    exact absurd h9 (by decide)
  · skip
    refine x_aload_n C dX4_step_12 rfl ?_
    refine x_iload_n C dX4_step_13 rfl ?_
    refine x_cV1 C yo_X4_go m_X4_157 rfl rfl (by first | assumption | exact Nat.one_pos) (hg) dX4_step_14 rfl rfl (Nat.le_of_ble_eq_true rfl) ⟨by decide, by decide⟩ ⟨by decide, by decide⟩ ?_
    refine x_goto C 21 dX4_step_17 (by decide) ?_
    exact x_iret C (po_i _ _ _ _ _ _) dX4_step_21

set_option maxRecDepth 100000 in
set_option maxHeartbeats 4000000 in
theorem c_X4_value_out (l : Launch) (D : va_G) (dA : Nat → ClassId) (base n : Nat) (ad : Fa) (I : Fi) (J : Fj) (R : Fr) (hT : ST n R) (hM : MG n I) (x : Int32) (hx : x < 0 ∨ nI n ≤ x)  : CT l D dA base yX4_value cX4_value 2 (some .long) 1 0 0 [.ref (ad 11 0), .int x] ad (Nn n) I J R (po (some (.long 0)) ad (Nn n) (up3 I 11 0 0 1) J R) := by
  refine CT.of 0 (L0 := [some (.ref (ad 11 0)), some (.int x)]) (by decide +kernel) rfl (Nat.le_of_ble_eq_true rfl) ?_
  intro p e s m args below meth c C
  refine x_aload_n C dX4_value_0 rfl ?_
  refine x_aload_n C dX4_value_1 rfl ?_
  refine x_iload_n C dX4_value_2 rfl ?_
  refine x_cV1 C yo_X4_isKey m_X4_82 rfl rfl (by first | assumption | exact Nat.one_pos) (c_X4_isKey_out l D dA base n ad I J R hT hM x hx) dX4_value_3 rfl rfl (Nat.le_of_ble_eq_true rfl) ⟨by decide, by decide⟩ ⟨by decide, by decide⟩ ?_
  refine x_if_ne C 13 dX4_value_6 (by decide) (fun h6 => ?_) (fun h6 => ?_)
  · skip
    exact absurd rfl h6
  · skip
    refine x_iconst C 1 (by decide) dX4_value_9 ?_
    refine x_goto C 36 dX4_value_10 (by decide) ?_
    refine x_putI C g_X4_75 rfl (by first | assumption | exact Nat.one_pos) dX4_value_36 ?_
    refine x_aload_n C dX4_value_39 rfl ?_
    refine x_getI C f_X4_75 rfl (by first | assumption | exact Nat.one_pos) dX4_value_40 ?_
    refine x_if_le C 50 dX4_value_43 (by decide) (fun h43 => ?_) (fun h43 => ?_)
    · skip
      simp only [up3_s] at h43
      exact absurd h43 (by decide)
    · skip
      refine x_lconst C 0 (by decide) dX4_value_46 ?_
      refine x_goto C 56 dX4_value_47 (by decide) ?_
      exact x_lret C (po_i _ _ _ _ _ _) dX4_value_56

set_option maxRecDepth 100000 in
set_option maxHeartbeats 4000000 in
theorem c_X4_value_bad (l : Launch) (D : va_G) (dA : Nat → ClassId) (base n : Nat) (ad : Fa) (I : Fi) (J : Fj) (R : Fr) (hT : ST n R) (hM : MG n I) (k : Nat) (hk : k < n) (hb : ¬ (msure I k = true ∧ I 26 0 k = 1)) : CT l D dA base yX4_value cX4_value 2 (some .long) 1 0 0 [.ref (ad 11 0), .int (nI k)] ad (Nn n) I J R (po (some (.long 0)) ad (Nn n) (up3 I 11 0 0 2) J R) := by
  refine CT.of 0 (L0 := [some (.ref (ad 11 0)), some (.int (nI k))]) (by decide +kernel) rfl (Nat.le_of_ble_eq_true rfl) ?_
  intro p e s m args below meth c C
  have hk40 : k < 40 := Nat.lt_of_lt_of_le hk hM.2
  refine x_aload_n C dX4_value_0 rfl ?_
  refine x_aload_n C dX4_value_1 rfl ?_
  refine x_iload_n C dX4_value_2 rfl ?_
  refine x_cV1 C yo_X4_isKey m_X4_82 rfl rfl (by first | assumption | exact Nat.one_pos) (c_X4_isKey_in l D dA base n ad I J R hT hM k hk) dX4_value_3 rfl rfl (Nat.le_of_ble_eq_true rfl) ⟨by decide, by decide⟩ ⟨by decide, by decide⟩ ?_
  refine x_if_ne C 13 dX4_value_6 (by decide) (fun h6 => ?_) (fun h6 => ?_)
  · skip
    refine x_aload_n C dX4_value_13 rfl ?_
    refine x_iload_n C dX4_value_14 rfl ?_
    refine x_cV1 C yo_X4_isSure m_X4_123 rfl rfl (by first | assumption | exact Nat.one_pos) (c_X4_isSure l D dA base n ad I J R hT k hk40) dX4_value_15 rfl rfl (Nat.le_of_ble_eq_true rfl) ⟨by decide, by decide⟩ ⟨by decide, by decide⟩ ?_
    refine x_if_eq C 31 dX4_value_18 (by decide) (fun h18 => ?_) (fun h18 => ?_)
    · skip
      refine x_iconst C 2 (by decide) dX4_value_31 ?_
      refine x_goto C 36 dX4_value_32 (by decide) ?_
      refine x_putI C g_X4_75 rfl (by first | assumption | exact Nat.one_pos) dX4_value_36 ?_
      refine x_aload_n C dX4_value_39 rfl ?_
      refine x_getI C f_X4_75 rfl (by first | assumption | exact Nat.one_pos) dX4_value_40 ?_
      refine x_if_le C 50 dX4_value_43 (by decide) (fun h43 => ?_) (fun h43 => ?_)
      · skip
        simp only [up3_s] at h43
        exact absurd h43 (by decide)
      · skip
        refine x_lconst C 0 (by decide) dX4_value_46 ?_
        refine x_goto C 56 dX4_value_47 (by decide) ?_
        exact x_lret C (po_i _ _ _ _ _ _) dX4_value_56
    · skip
      have q18 : msure I k = true := Decidable.of_not_not (fun z => h18 (by rw [if_neg z]))
      refine x_aload_n C dX4_value_21 rfl ?_
      refine x_getF C hT f_X4_19 rfl rfl (by first | assumption | exact Nat.one_pos) dX4_value_22 ?_
      refine x_iload_n C dX4_value_25 rfl ?_
      refine x_ialdN C (k) rfl rfl rfl (by first | assumption | exact Nat.one_pos) hk40 (by decide) dX4_value_26 ?_
      refine x_iconst C 1 (by decide) dX4_value_27 ?_
      refine x_icmp_eq C 35 dX4_value_28 (by decide) (fun h28 => ?_) (fun h28 => ?_)
      · skip
        exact absurd ⟨q18, h28⟩ hb
      · skip
        refine x_iconst C 2 (by decide) dX4_value_31 ?_
        refine x_goto C 36 dX4_value_32 (by decide) ?_
        refine x_putI C g_X4_75 rfl (by first | assumption | exact Nat.one_pos) dX4_value_36 ?_
        refine x_aload_n C dX4_value_39 rfl ?_
        refine x_getI C f_X4_75 rfl (by first | assumption | exact Nat.one_pos) dX4_value_40 ?_
        refine x_if_le C 50 dX4_value_43 (by decide) (fun h43 => ?_) (fun h43 => ?_)
        · skip
          simp only [up3_s] at h43
          exact absurd h43 (by decide)
        · skip
          refine x_lconst C 0 (by decide) dX4_value_46 ?_
          refine x_goto C 56 dX4_value_47 (by decide) ?_
          exact x_lret C (po_i _ _ _ _ _ _) dX4_value_56
  · skip
    exact absurd h6 (by decide)

set_option maxRecDepth 100000 in
set_option maxHeartbeats 4000000 in
theorem c_X4_value_ok (l : Launch) (D : va_G) (dA : Nat → ClassId) (base n : Nat) (ad : Fa) (I : Fi) (J : Fj) (R : Fr) (hT : ST n R) (hM : MG n I) (k : Nat) (hk : k < n) (hs : msure I k = true) (hh : I 26 0 k = 1) : CT l D dA base yX4_value cX4_value 2 (some .long) 1 0 0 [.ref (ad 11 0), .int (nI k)] ad (Nn n) I J R (po (some (.long (J 34 0 k))) ad (Nn n) (up3 I 11 0 0 0) J R) := by
  refine CT.of 0 (L0 := [some (.ref (ad 11 0)), some (.int (nI k))]) (by decide +kernel) rfl (Nat.le_of_ble_eq_true rfl) ?_
  intro p e s m args below meth c C
  have hk40 : k < 40 := Nat.lt_of_lt_of_le hk hM.2
  refine x_aload_n C dX4_value_0 rfl ?_
  refine x_aload_n C dX4_value_1 rfl ?_
  refine x_iload_n C dX4_value_2 rfl ?_
  refine x_cV1 C yo_X4_isKey m_X4_82 rfl rfl (by first | assumption | exact Nat.one_pos) (c_X4_isKey_in l D dA base n ad I J R hT hM k hk) dX4_value_3 rfl rfl (Nat.le_of_ble_eq_true rfl) ⟨by decide, by decide⟩ ⟨by decide, by decide⟩ ?_
  refine x_if_ne C 13 dX4_value_6 (by decide) (fun h6 => ?_) (fun h6 => ?_)
  · skip
    refine x_aload_n C dX4_value_13 rfl ?_
    refine x_iload_n C dX4_value_14 rfl ?_
    refine x_cV1 C yo_X4_isSure m_X4_123 rfl rfl (by first | assumption | exact Nat.one_pos) (c_X4_isSure l D dA base n ad I J R hT k hk40) dX4_value_15 rfl rfl (Nat.le_of_ble_eq_true rfl) ⟨by decide, by decide⟩ ⟨by decide, by decide⟩ ?_
    refine x_if_eq C 31 dX4_value_18 (by decide) (fun h18 => ?_) (fun h18 => ?_)
    · skip
      rw [hs] at h18
      exact absurd h18 (by decide)
    · skip
      refine x_aload_n C dX4_value_21 rfl ?_
      refine x_getF C hT f_X4_19 rfl rfl (by first | assumption | exact Nat.one_pos) dX4_value_22 ?_
      refine x_iload_n C dX4_value_25 rfl ?_
      refine x_ialdN C (k) rfl rfl rfl (by first | assumption | exact Nat.one_pos) hk40 (by decide) dX4_value_26 ?_
      refine x_iconst C 1 (by decide) dX4_value_27 ?_
      refine x_icmp_eq C 35 dX4_value_28 (by decide) (fun h28 => ?_) (fun h28 => ?_)
      · skip
        refine x_iconst C 0 (by decide) dX4_value_35 ?_
        refine x_putI C g_X4_75 rfl (by first | assumption | exact Nat.one_pos) dX4_value_36 ?_
        refine x_aload_n C dX4_value_39 rfl ?_
        refine x_getI C f_X4_75 rfl (by first | assumption | exact Nat.one_pos) dX4_value_40 ?_
        refine x_if_le C 50 dX4_value_43 (by decide) (fun h43 => ?_) (fun h43 => ?_)
        · skip
          refine x_aload_n C dX4_value_50 rfl ?_
          refine x_getF C hT f_X4_43 rfl rfl (by first | assumption | exact Nat.one_pos) dX4_value_51 ?_
          refine x_iload_n C dX4_value_54 rfl ?_
          refine x_laldN C (k) rfl rfl rfl (by first | assumption | exact Nat.one_pos) hk40 (by decide) dX4_value_55 ?_
          exact x_lret C (po_i _ _ _ _ _ _) dX4_value_56
        · skip
          simp only [up3_s] at h43
          exact absurd (by decide) h43
      · skip
        exact absurd hh h28
  · skip
    exact absurd h6 (by decide)

set_option maxRecDepth 100000 in
set_option maxHeartbeats 4000000 in
theorem c_X4_run_out (l : Launch) (D : va_G) (dA : Nat → ClassId) (base n : Nat) (ad : Fa) (I : Fi) (J : Fj) (R : Fr) (hT : ST n R) (hM : MG n I) (x : Int32) (hx : x < 0 ∨ nI n ≤ x)  : CT l D dA base yX4_run cX4_run 3 (some .int) 4 0 0 [.ref (ad 11 0), .int x] ad (Nn n) I J R (po (some (.int (-1))) ad (Nn n) (up3 I 11 0 0 0) J R) := by
  refine CT.of 1 (L0 := [some (.ref (ad 11 0)), some (.int x), none]) (by decide +kernel) rfl (Nat.le_of_ble_eq_true rfl) ?_
  intro p e s m args below meth c C
  refine x_aload_n C dX4_run_0 rfl ?_
  refine x_iconst C 0 (by decide) dX4_run_1 ?_
  refine x_putI C g_X4_75 rfl (by first | assumption | exact Nat.one_pos) dX4_run_2 ?_
  refine x_aload_n C dX4_run_5 rfl ?_
  refine x_iload_n C dX4_run_6 rfl ?_
  refine x_cV1 C yo_X4_isKey m_X4_82 rfl rfl (by first | assumption | exact Nat.one_pos) (c_X4_isKey_out l D dA base n ad (up3 I 11 0 0 0) J R hT (hM.up (by decide)) x hx) dX4_run_7 rfl rfl (Nat.le_of_ble_eq_true rfl) ⟨by decide, by decide⟩ ⟨by decide, by decide⟩ ?_
  refine x_if_ne C 15 dX4_run_10 (by decide) (fun h10 => ?_) (fun h10 => ?_)
  · skip
    exact absurd rfl h10
  · skip
    refine x_iconst C (-1) (by decide) dX4_run_13 ?_
    exact x_iret C (po_i _ _ _ _ _ _) dX4_run_14

set_option maxRecDepth 100000 in
set_option maxHeartbeats 4000000 in
theorem c_X4_run_sure (l : Launch) (D : va_G) (dA : Nat → ClassId) (base n : Nat) (ad : Fa) (I : Fi) (J : Fj) (R : Fr) (hT : ST n R) (hM : MG n I) (k : Nat) (hk : k < n) (hsu : msure I k = true) : CT l D dA base yX4_run cX4_run 3 (some .int) 4 0 0 [.ref (ad 11 0), .int (nI k)] ad (Nn n) I J R (po (some (.int (I 26 0 k))) ad (Nn n) (up3 I 11 0 0 0) J R) := by
  refine CT.of 1 (L0 := [some (.ref (ad 11 0)), some (.int (nI k)), none]) (by decide +kernel) rfl (Nat.le_of_ble_eq_true rfl) ?_
  intro p e s m args below meth c C
  have hk40 : k < 40 := Nat.lt_of_lt_of_le hk hM.2
  refine x_aload_n C dX4_run_0 rfl ?_
  refine x_iconst C 0 (by decide) dX4_run_1 ?_
  refine x_putI C g_X4_75 rfl (by first | assumption | exact Nat.one_pos) dX4_run_2 ?_
  refine x_aload_n C dX4_run_5 rfl ?_
  refine x_iload_n C dX4_run_6 rfl ?_
  refine x_cV1 C yo_X4_isKey m_X4_82 rfl rfl (by first | assumption | exact Nat.one_pos) (c_X4_isKey_in l D dA base n ad (up3 I 11 0 0 0) J R hT (hM.up (by decide)) k hk) dX4_run_7 rfl rfl (Nat.le_of_ble_eq_true rfl) ⟨by decide, by decide⟩ ⟨by decide, by decide⟩ ?_
  refine x_if_ne C 15 dX4_run_10 (by decide) (fun h10 => ?_) (fun h10 => ?_)
  · skip
    refine x_aload_n C dX4_run_15 rfl ?_
    refine x_iload_n C dX4_run_16 rfl ?_
    refine x_cV1 C yo_X4_isSure m_X4_123 rfl rfl (by first | assumption | exact Nat.one_pos) (c_X4_isSure l D dA base n ad (up3 I 11 0 0 0) J R hT k hk40) dX4_run_17 rfl rfl (Nat.le_of_ble_eq_true rfl) ⟨by decide, by decide⟩ ⟨by decide, by decide⟩ ?_
    refine x_if_eq C 30 dX4_run_20 (by decide) (fun h20 => ?_) (fun h20 => ?_)
    · skip
      rw [msure_c] at h20
      rw [hsu] at h20
      exact absurd h20 (by decide)
    · skip
      refine x_aload_n C dX4_run_23 rfl ?_
      refine x_getF C hT f_X4_19 rfl rfl (by first | assumption | exact Nat.one_pos) dX4_run_24 ?_
      refine x_iload_n C dX4_run_27 rfl ?_
      refine x_ialdN C (k) rfl rfl rfl (by first | assumption | exact Nat.one_pos) hk40 (by decide) dX4_run_28 ?_
      try simp only [up3_r, Nat.reduceEqDiff, and_false, false_and, and_self, and_true, true_and, reduceIte]
      exact x_iret C (po_i _ _ _ _ _ _) dX4_run_29
  · skip
    exact absurd h10 (by decide)

set_option maxRecDepth 100000 in
set_option maxHeartbeats 4000000 in
theorem c_X4_run_has (l : Launch) (D : va_G) (dA : Nat → ClassId) (base n : Nat) (ad : Fa) (I : Fi) (J : Fj) (R : Fr) (hT : ST n R) (hM : MG n I) (k : Nat) (hk : k < n) (zs : Nat → Nat) (hH : HI I zs) (hsu : msure I k = false) (hq : ¬ pofP I (nI k) zs 5 = -1) : CT l D dA base yX4_run cX4_run 3 (some .int) 4 0 0 [.ref (ad 11 0), .int (nI k)] ad (Nn n) I J R (po (some (.int (-2))) ad (Nn n) (up3 I 11 0 0 0) J R) := by
  refine CT.of 1 (L0 := [some (.ref (ad 11 0)), some (.int (nI k)), none]) (by decide +kernel) rfl (Nat.le_of_ble_eq_true rfl) ?_
  intro p e s m args below meth c C
  have hk40 : k < 40 := Nat.lt_of_lt_of_le hk hM.2
  refine x_aload_n C dX4_run_0 rfl ?_
  refine x_iconst C 0 (by decide) dX4_run_1 ?_
  refine x_putI C g_X4_75 rfl (by first | assumption | exact Nat.one_pos) dX4_run_2 ?_
  refine x_aload_n C dX4_run_5 rfl ?_
  refine x_iload_n C dX4_run_6 rfl ?_
  refine x_cV1 C yo_X4_isKey m_X4_82 rfl rfl (by first | assumption | exact Nat.one_pos) (c_X4_isKey_in l D dA base n ad (up3 I 11 0 0 0) J R hT (hM.up (by decide)) k hk) dX4_run_7 rfl rfl (Nat.le_of_ble_eq_true rfl) ⟨by decide, by decide⟩ ⟨by decide, by decide⟩ ?_
  refine x_if_ne C 15 dX4_run_10 (by decide) (fun h10 => ?_) (fun h10 => ?_)
  · skip
    refine x_aload_n C dX4_run_15 rfl ?_
    refine x_iload_n C dX4_run_16 rfl ?_
    refine x_cV1 C yo_X4_isSure m_X4_123 rfl rfl (by first | assumption | exact Nat.one_pos) (c_X4_isSure l D dA base n ad (up3 I 11 0 0 0) J R hT k hk40) dX4_run_17 rfl rfl (Nat.le_of_ble_eq_true rfl) ⟨by decide, by decide⟩ ⟨by decide, by decide⟩ ?_
    refine x_if_eq C 30 dX4_run_20 (by decide) (fun h20 => ?_) (fun h20 => ?_)
    · skip
      refine x_aload_n C dX4_run_30 rfl ?_
      refine x_iload_n C dX4_run_31 rfl ?_
      refine x_cV1 C yo_X4_pileOf m_X4_120 rfl rfl (by first | assumption | exact Nat.one_pos) (c_X4_pileOf l D dA base n ad (up3 I 11 0 0 0) J R hT (nI k) zs (hH.up (by decide))) dX4_run_32 rfl rfl (Nat.le_of_ble_eq_true rfl) ⟨by decide, by decide⟩ ⟨by decide, by decide⟩ ?_
      refine x_iconst C (-1) (by decide) dX4_run_35 ?_
      refine x_icmp_eq C 42 dX4_run_36 (by decide) (fun h36 => ?_) (fun h36 => ?_)
      · skip
        rw [pof_c] at h36
        exact absurd h36 hq
      · skip
        refine x_bipush C (-2) (by decide) dX4_run_39 ?_
        exact x_iret C (po_i _ _ _ _ _ _) dX4_run_41
    · skip
      rw [msure_c] at h20
      rw [hsu] at h20
      exact absurd rfl h20
  · skip
    exact absurd h10 (by decide)

set_option maxRecDepth 100000 in
set_option maxHeartbeats 4000000 in
theorem c_X4_run_end (l : Launch) (D : va_G) (dA : Nat → ClassId) (base n : Nat) (ad : Fa) (I : Fi) (J : Fj) (R : Fr) (hT : ST n R) (hM : MG n I) (k : Nat) (hk : k < n) (zs : Nat → Nat) (hH : HI I zs) (hz4 : zs 4 = 0) (hsu : msure I k = false) (hq : pofP I (nI k) zs 5 = -1) (T : Nat) (σI : Nat → Fi) (σJ : Nat → Fj) (σR : Nat → Fr) (zt : Nat → Nat) (h0I : σI 0 = lyI (up3 I 11 0 0 0) 4 k 0) (h0J : σJ 0 = J) (h0R : σR 0 = R) (hTS : ∀ t, t ≤ T → ST n (σR t)) (hz : ∀ t, t ≤ T → σI t 37 0 4 = nI (zt t) ∧ zt t ≤ 40) (hst : ∀ t, t < T → 0 < zt t ∧ ∃ x : Int32, ¬ x = 3 ∧ CT l D dA base yX4_go cX4_go 5 (some .int) 3 0 0 [.ref (ad 11 0), .int (nI 4)] ad (Nn n) (σI t) (σJ t) (σR t) (po (some (.int x)) ad (Nn n) (σI (t + 1)) (σJ (t + 1)) (σR (t + 1)))) (hend : zt T = 0) : CT l D dA base yX4_run cX4_run 3 (some .int) 4 0 0 [.ref (ad 11 0), .int (nI k)] ad (Nn n) I J R (po (some (.int (σI T 26 0 k))) ad (Nn n) (up3 (σI T) 37 0 4 0) (σJ T) (σR T)) := by
  refine CT.of 1 (L0 := [some (.ref (ad 11 0)), some (.int (nI k)), none]) (by decide +kernel) rfl (Nat.le_of_ble_eq_true rfl) ?_
  intro p e s m args below meth c C
  have hk40 : k < 40 := Nat.lt_of_lt_of_le hk hM.2
  have loop : ∀ (f t : Nat), t + f = T → ∀ g : Int32, ¬ g = 3 → GX p l e (rmX 4 0 0) s m args below meth c (MQ below (CQ D dA base (po (some (.int (σI T 26 0 k))) ad (Nn n) (up3 (σI T) 37 0 4 0) (σJ T) (σR T))) args s 0 0 (fun q => base ≤ q)) D dA base 3 ad (Nn n) (σI t) (σJ t) (σR t) 0 0 50 [some (.ref (ad 11 0)), some (.int (nI k)), some (.int g)] [] := by
    intro f
    induction f with
    | zero =>
      intro t ht g hg
      have ht2 : t = T := by omega
      subst ht2
      obtain ⟨hz1, hz2⟩ := hz t (Nat.le_refl _)
      have hT := hTS t (Nat.le_refl _)
      refine x_iload_n C dX4_run_50 rfl ?_
      refine x_iconst C 3 (by decide) dX4_run_51 ?_
      refine x_icmp_eq C 73 dX4_run_52 (by decide) (fun h52 => ?_) (fun h52 => ?_)
      · skip
        exact absurd h52 hg
      · skip
        refine x_aload_n C dX4_run_55 rfl ?_
        refine x_getF C hT f_X4_54 rfl rfl (by first | assumption | exact Nat.one_pos) dX4_run_56 ?_
        refine x_iconst C 4 (by decide) dX4_run_59 ?_
        refine x_ialdN C (4) rfl rfl rfl (by first | assumption | exact Nat.one_pos) (by decide) (by decide) dX4_run_60 ?_
        try simp only [up3_r, Nat.reduceEqDiff, and_false, false_and, and_self, and_true, true_and, reduceIte]
        refine x_if_le C 73 dX4_run_61 (by decide) (fun h61 => ?_) (fun h61 => ?_)
        · skip
          refine x_aload_n C dX4_run_73 rfl ?_
          refine x_getF C hT f_X4_54 rfl rfl (by first | assumption | exact Nat.one_pos) dX4_run_74 ?_
          refine x_iconst C 4 (by decide) dX4_run_77 ?_
          refine x_iconst C 0 (by decide) dX4_run_78 ?_
          refine x_iastN C (4) rfl rfl rfl (by first | assumption | exact Nat.one_pos) (by decide) (by decide) dX4_run_79 ?_
          refine x_iload_n C dX4_run_80 rfl ?_
          refine x_iconst C 3 (by decide) dX4_run_81 ?_
          refine x_icmp_ne C 90 dX4_run_82 (by decide) (fun h82 => ?_) (fun h82 => ?_)
          · skip
            refine x_aload_n C dX4_run_90 rfl ?_
            refine x_getF C hT f_X4_19 rfl rfl (by first | assumption | exact Nat.one_pos) dX4_run_91 ?_
            refine x_iload_n C dX4_run_94 rfl ?_
            refine x_ialdN C (k) rfl rfl rfl (by first | assumption | exact Nat.one_pos) hk40 (by decide) dX4_run_95 ?_
            try simp only [up3_r, Nat.reduceEqDiff, and_false, false_and, and_self, and_true, true_and, reduceIte]
            exact x_iret C (po_i _ _ _ _ _ _) dX4_run_96
          · skip
            exact absurd h82 hg
        · skip
          rw [hz1, hend] at h61
          exact absurd (by decide) h61
    | succ f ih =>
      intro t ht g hg
      obtain ⟨hz1, hz2⟩ := hz t (by omega)
      obtain ⟨hpos, x, hx3, hMt⟩ := hst t (by omega)
      have hT := hTS t (by omega)
      refine x_iload_n C dX4_run_50 rfl ?_
      refine x_iconst C 3 (by decide) dX4_run_51 ?_
      refine x_icmp_eq C 73 dX4_run_52 (by decide) (fun h52 => ?_) (fun h52 => ?_)
      · skip
        exact absurd h52 hg
      · skip
        refine x_aload_n C dX4_run_55 rfl ?_
        refine x_getF C hT f_X4_54 rfl rfl (by first | assumption | exact Nat.one_pos) dX4_run_56 ?_
        refine x_iconst C 4 (by decide) dX4_run_59 ?_
        refine x_ialdN C (4) rfl rfl rfl (by first | assumption | exact Nat.one_pos) (by decide) (by decide) dX4_run_60 ?_
        refine x_if_le C 73 dX4_run_61 (by decide) (fun h61 => ?_) (fun h61 => ?_)
        · skip
          rw [hz1] at h61
          exact absurd h61 (nI_nle hpos (by omega))
        · skip
          refine x_aload_n C dX4_run_64 rfl ?_
          refine x_iconst C 4 (by decide) dX4_run_65 ?_
          refine x_cV1 C yo_X4_go m_X4_157 rfl rfl (by first | assumption | exact Nat.one_pos) (hMt) dX4_run_66 rfl rfl (Nat.le_of_ble_eq_true rfl) ⟨by decide, by decide⟩ ⟨by decide, by decide⟩ ?_
          refine x_istore_n C dX4_run_69 (by decide) rfl rfl ?_
          refine x_goto C 50 dX4_run_70 (by decide) ?_
          exact ih (t + 1) (by omega) x hx3
  refine x_aload_n C dX4_run_0 rfl ?_
  refine x_iconst C 0 (by decide) dX4_run_1 ?_
  refine x_putI C g_X4_75 rfl (by first | assumption | exact Nat.one_pos) dX4_run_2 ?_
  refine x_aload_n C dX4_run_5 rfl ?_
  refine x_iload_n C dX4_run_6 rfl ?_
  refine x_cV1 C yo_X4_isKey m_X4_82 rfl rfl (by first | assumption | exact Nat.one_pos) (c_X4_isKey_in l D dA base n ad (up3 I 11 0 0 0) J R hT (hM.up (by decide)) k hk) dX4_run_7 rfl rfl (Nat.le_of_ble_eq_true rfl) ⟨by decide, by decide⟩ ⟨by decide, by decide⟩ ?_
  refine x_if_ne C 15 dX4_run_10 (by decide) (fun h10 => ?_) (fun h10 => ?_)
  · skip
    refine x_aload_n C dX4_run_15 rfl ?_
    refine x_iload_n C dX4_run_16 rfl ?_
    refine x_cV1 C yo_X4_isSure m_X4_123 rfl rfl (by first | assumption | exact Nat.one_pos) (c_X4_isSure l D dA base n ad (up3 I 11 0 0 0) J R hT k hk40) dX4_run_17 rfl rfl (Nat.le_of_ble_eq_true rfl) ⟨by decide, by decide⟩ ⟨by decide, by decide⟩ ?_
    refine x_if_eq C 30 dX4_run_20 (by decide) (fun h20 => ?_) (fun h20 => ?_)
    · skip
      refine x_aload_n C dX4_run_30 rfl ?_
      refine x_iload_n C dX4_run_31 rfl ?_
      refine x_cV1 C yo_X4_pileOf m_X4_120 rfl rfl (by first | assumption | exact Nat.one_pos) (c_X4_pileOf l D dA base n ad (up3 I 11 0 0 0) J R hT (nI k) zs (hH.up (by decide))) dX4_run_32 rfl rfl (Nat.le_of_ble_eq_true rfl) ⟨by decide, by decide⟩ ⟨by decide, by decide⟩ ?_
      refine x_iconst C (-1) (by decide) dX4_run_35 ?_
      refine x_icmp_eq C 42 dX4_run_36 (by decide) (fun h36 => ?_) (fun h36 => ?_)
      · skip
        refine x_aload_n C dX4_run_42 rfl ?_
        refine x_iconst C 4 (by decide) dX4_run_43 ?_
        refine x_iload_n C dX4_run_44 rfl ?_
        refine x_cV0 C yo_X4_lay m_X4_126 rfl rfl (by first | assumption | exact Nat.one_pos) (c_X4_lay l D dA base n ad (up3 I 11 0 0 0) J R hT 4 k 0 (by decide) hk40 (by rw [up3_c _ _ _ _ _ (by decide), (hH 4 (by decide)).1, hz4]) (by decide)) dX4_run_45 rfl rfl (Nat.le_of_ble_eq_true rfl) ⟨by decide, by decide⟩ ⟨by decide, by decide⟩ ?_
        refine x_iconst C 1 (by decide) dX4_run_48 ?_
        refine x_istore_n C dX4_run_49 (by decide) rfl rfl ?_
        exact x_eqL (loop T 0 (by omega) 1 (by decide)) rfl rfl rfl h0I.symm h0J.symm h0R.symm
      · skip
        rw [pof_c] at h36
        exact absurd hq h36
    · skip
      rw [msure_c] at h20
      rw [hsu] at h20
      exact absurd rfl h20
  · skip
    exact absurd h10 (by decide)

set_option maxRecDepth 100000 in
set_option maxHeartbeats 4000000 in
theorem c_X4_run_wait (l : Launch) (D : va_G) (dA : Nat → ClassId) (base n : Nat) (ad : Fa) (I : Fi) (J : Fj) (R : Fr) (hT : ST n R) (hM : MG n I) (k : Nat) (hk : k < n) (zs : Nat → Nat) (hH : HI I zs) (hz4 : zs 4 = 0) (hsu : msure I k = false) (hq : pofP I (nI k) zs 5 = -1) (T : Nat) (σI : Nat → Fi) (σJ : Nat → Fj) (σR : Nat → Fr) (zt : Nat → Nat) (h0I : σI 0 = lyI (up3 I 11 0 0 0) 4 k 0) (h0J : σJ 0 = J) (h0R : σR 0 = R) (hTS : ∀ t, t ≤ T → ST n (σR t)) (hz : ∀ t, t ≤ T → σI t 37 0 4 = nI (zt t) ∧ zt t ≤ 40) (hst : ∀ t, t < T → 0 < zt t ∧ ∃ x : Int32, ¬ x = 3 ∧ CT l D dA base yX4_go cX4_go 5 (some .int) 3 0 0 [.ref (ad 11 0), .int (nI 4)] ad (Nn n) (σI t) (σJ t) (σR t) (po (some (.int x)) ad (Nn n) (σI (t + 1)) (σJ (t + 1)) (σR (t + 1)))) (hw : 0 < zt T) (hlast : CT l D dA base yX4_go cX4_go 5 (some .int) 3 0 0 [.ref (ad 11 0), .int (nI 4)] ad (Nn n) (σI T) (σJ T) (σR T) (po (some (.int 3)) ad (Nn n) (σI T) (σJ T) (σR T))) : CT l D dA base yX4_run cX4_run 3 (some .int) 4 0 0 [.ref (ad 11 0), .int (nI k)] ad (Nn n) I J R (po (some (.int (-2))) ad (Nn n) (up3 (σI T) 37 0 4 0) (σJ T) (σR T)) := by
  refine CT.of 1 (L0 := [some (.ref (ad 11 0)), some (.int (nI k)), none]) (by decide +kernel) rfl (Nat.le_of_ble_eq_true rfl) ?_
  intro p e s m args below meth c C
  have hk40 : k < 40 := Nat.lt_of_lt_of_le hk hM.2
  have loop : ∀ (f t : Nat), t + f = T → ∀ g : Int32, ¬ g = 3 → GX p l e (rmX 4 0 0) s m args below meth c (MQ below (CQ D dA base (po (some (.int (-2))) ad (Nn n) (up3 (σI T) 37 0 4 0) (σJ T) (σR T))) args s 0 0 (fun q => base ≤ q)) D dA base 3 ad (Nn n) (σI t) (σJ t) (σR t) 0 0 50 [some (.ref (ad 11 0)), some (.int (nI k)), some (.int g)] [] := by
    intro f
    induction f with
    | zero =>
      intro t ht g hg
      have ht2 : t = T := by omega
      subst ht2
      obtain ⟨hz1, hz2⟩ := hz t (Nat.le_refl _)
      have hT := hTS t (Nat.le_refl _)
      refine x_iload_n C dX4_run_50 rfl ?_
      refine x_iconst C 3 (by decide) dX4_run_51 ?_
      refine x_icmp_eq C 73 dX4_run_52 (by decide) (fun h52 => ?_) (fun h52 => ?_)
      · skip
        exact absurd h52 hg
      · skip
        refine x_aload_n C dX4_run_55 rfl ?_
        refine x_getF C hT f_X4_54 rfl rfl (by first | assumption | exact Nat.one_pos) dX4_run_56 ?_
        refine x_iconst C 4 (by decide) dX4_run_59 ?_
        refine x_ialdN C (4) rfl rfl rfl (by first | assumption | exact Nat.one_pos) (by decide) (by decide) dX4_run_60 ?_
        refine x_if_le C 73 dX4_run_61 (by decide) (fun h61 => ?_) (fun h61 => ?_)
        · skip
          rw [hz1] at h61
          exact absurd h61 (nI_nle hw (by omega))
        · skip
          refine x_aload_n C dX4_run_64 rfl ?_
          refine x_iconst C 4 (by decide) dX4_run_65 ?_
          refine x_cV1 C yo_X4_go m_X4_157 rfl rfl (by first | assumption | exact Nat.one_pos) (hlast) dX4_run_66 rfl rfl (Nat.le_of_ble_eq_true rfl) ⟨by decide, by decide⟩ ⟨by decide, by decide⟩ ?_
          refine x_istore_n C dX4_run_69 (by decide) rfl rfl ?_
          refine x_goto C 50 dX4_run_70 (by decide) ?_
          refine x_iload_n C dX4_run_50 rfl ?_
          refine x_iconst C 3 (by decide) dX4_run_51 ?_
          refine x_icmp_eq C 73 dX4_run_52 (by decide) (fun h52 => ?_) (fun h52 => ?_)
          · skip
            refine x_aload_n C dX4_run_73 rfl ?_
            refine x_getF C hT f_X4_54 rfl rfl (by first | assumption | exact Nat.one_pos) dX4_run_74 ?_
            refine x_iconst C 4 (by decide) dX4_run_77 ?_
            refine x_iconst C 0 (by decide) dX4_run_78 ?_
            refine x_iastN C (4) rfl rfl rfl (by first | assumption | exact Nat.one_pos) (by decide) (by decide) dX4_run_79 ?_
            refine x_iload_n C dX4_run_80 rfl ?_
            refine x_iconst C 3 (by decide) dX4_run_81 ?_
            refine x_icmp_ne C 90 dX4_run_82 (by decide) (fun h82 => ?_) (fun h82 => ?_)
            · skip
              exact absurd rfl h82
            · skip
              refine x_bipush C (-2) (by decide) dX4_run_85 ?_
              refine x_goto C 96 dX4_run_87 (by decide) ?_
              exact x_iret C (po_i _ _ _ _ _ _) dX4_run_96
          · skip
            exact absurd rfl h52
    | succ f ih =>
      intro t ht g hg
      obtain ⟨hz1, hz2⟩ := hz t (by omega)
      obtain ⟨hpos, x, hx3, hMt⟩ := hst t (by omega)
      have hT := hTS t (by omega)
      refine x_iload_n C dX4_run_50 rfl ?_
      refine x_iconst C 3 (by decide) dX4_run_51 ?_
      refine x_icmp_eq C 73 dX4_run_52 (by decide) (fun h52 => ?_) (fun h52 => ?_)
      · skip
        exact absurd h52 hg
      · skip
        refine x_aload_n C dX4_run_55 rfl ?_
        refine x_getF C hT f_X4_54 rfl rfl (by first | assumption | exact Nat.one_pos) dX4_run_56 ?_
        refine x_iconst C 4 (by decide) dX4_run_59 ?_
        refine x_ialdN C (4) rfl rfl rfl (by first | assumption | exact Nat.one_pos) (by decide) (by decide) dX4_run_60 ?_
        refine x_if_le C 73 dX4_run_61 (by decide) (fun h61 => ?_) (fun h61 => ?_)
        · skip
          rw [hz1] at h61
          exact absurd h61 (nI_nle hpos (by omega))
        · skip
          refine x_aload_n C dX4_run_64 rfl ?_
          refine x_iconst C 4 (by decide) dX4_run_65 ?_
          refine x_cV1 C yo_X4_go m_X4_157 rfl rfl (by first | assumption | exact Nat.one_pos) (hMt) dX4_run_66 rfl rfl (Nat.le_of_ble_eq_true rfl) ⟨by decide, by decide⟩ ⟨by decide, by decide⟩ ?_
          refine x_istore_n C dX4_run_69 (by decide) rfl rfl ?_
          refine x_goto C 50 dX4_run_70 (by decide) ?_
          exact ih (t + 1) (by omega) x hx3
  refine x_aload_n C dX4_run_0 rfl ?_
  refine x_iconst C 0 (by decide) dX4_run_1 ?_
  refine x_putI C g_X4_75 rfl (by first | assumption | exact Nat.one_pos) dX4_run_2 ?_
  refine x_aload_n C dX4_run_5 rfl ?_
  refine x_iload_n C dX4_run_6 rfl ?_
  refine x_cV1 C yo_X4_isKey m_X4_82 rfl rfl (by first | assumption | exact Nat.one_pos) (c_X4_isKey_in l D dA base n ad (up3 I 11 0 0 0) J R hT (hM.up (by decide)) k hk) dX4_run_7 rfl rfl (Nat.le_of_ble_eq_true rfl) ⟨by decide, by decide⟩ ⟨by decide, by decide⟩ ?_
  refine x_if_ne C 15 dX4_run_10 (by decide) (fun h10 => ?_) (fun h10 => ?_)
  · skip
    refine x_aload_n C dX4_run_15 rfl ?_
    refine x_iload_n C dX4_run_16 rfl ?_
    refine x_cV1 C yo_X4_isSure m_X4_123 rfl rfl (by first | assumption | exact Nat.one_pos) (c_X4_isSure l D dA base n ad (up3 I 11 0 0 0) J R hT k hk40) dX4_run_17 rfl rfl (Nat.le_of_ble_eq_true rfl) ⟨by decide, by decide⟩ ⟨by decide, by decide⟩ ?_
    refine x_if_eq C 30 dX4_run_20 (by decide) (fun h20 => ?_) (fun h20 => ?_)
    · skip
      refine x_aload_n C dX4_run_30 rfl ?_
      refine x_iload_n C dX4_run_31 rfl ?_
      refine x_cV1 C yo_X4_pileOf m_X4_120 rfl rfl (by first | assumption | exact Nat.one_pos) (c_X4_pileOf l D dA base n ad (up3 I 11 0 0 0) J R hT (nI k) zs (hH.up (by decide))) dX4_run_32 rfl rfl (Nat.le_of_ble_eq_true rfl) ⟨by decide, by decide⟩ ⟨by decide, by decide⟩ ?_
      refine x_iconst C (-1) (by decide) dX4_run_35 ?_
      refine x_icmp_eq C 42 dX4_run_36 (by decide) (fun h36 => ?_) (fun h36 => ?_)
      · skip
        refine x_aload_n C dX4_run_42 rfl ?_
        refine x_iconst C 4 (by decide) dX4_run_43 ?_
        refine x_iload_n C dX4_run_44 rfl ?_
        refine x_cV0 C yo_X4_lay m_X4_126 rfl rfl (by first | assumption | exact Nat.one_pos) (c_X4_lay l D dA base n ad (up3 I 11 0 0 0) J R hT 4 k 0 (by decide) hk40 (by rw [up3_c _ _ _ _ _ (by decide), (hH 4 (by decide)).1, hz4]) (by decide)) dX4_run_45 rfl rfl (Nat.le_of_ble_eq_true rfl) ⟨by decide, by decide⟩ ⟨by decide, by decide⟩ ?_
        refine x_iconst C 1 (by decide) dX4_run_48 ?_
        refine x_istore_n C dX4_run_49 (by decide) rfl rfl ?_
        exact x_eqL (loop T 0 (by omega) 1 (by decide)) rfl rfl rfl h0I.symm h0J.symm h0R.symm
      · skip
        rw [pof_c] at h36
        exact absurd hq h36
    · skip
      rw [msure_c] at h20
      rw [hsu] at h20
      exact absurd rfl h20
  · skip
    exact absurd h10 (by decide)

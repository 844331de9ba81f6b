/-! leaves of the class: Key, Work -/
set_option maxRecDepth 100000 in
set_option maxHeartbeats 4000000 in
theorem c_X0_isLeaf (l : Launch) (D : va_G) (dA : Nat → ClassId) (base n : Nat) (ad : Fa) (I : Fi) (J : Fj) (R : Fr) (hT : ST n R) (i : Nat) (hi : i < n) : CT l D dA base yX0_isLeaf cX0_isLeaf 1 (some .boolean) 0 0 0 [.ref (ad 4 i)] ad (Nn n) I J R (po (some (.int (if I 4 i 1 = -1 then 1 else 0))) ad (Nn n) I J R) := by
  refine CT.of 0 (L0 := [some (.ref (ad 4 i))]) (by decide +kernel) rfl (Nat.le_of_ble_eq_true rfl) ?_
  intro p e s m args below meth c C
  refine x_aload_n C dX0_isLeaf_0 rfl ?_
  refine x_getI C f_X0_30 rfl (by first | assumption | exact Nat.one_pos) dX0_isLeaf_1 ?_
  refine x_iconst C (-1) (by decide) dX0_isLeaf_4 ?_
  refine x_icmp_ne C 12 dX0_isLeaf_5 (by decide) (fun h5 => ?_) (fun h5 => ?_)
  · skip
    refine x_iconst C 0 (by decide) dX0_isLeaf_12 ?_
    exact x_zret C (by first | exact Or.inl rfl | exact Or.inr rfl | assumption) (po_r (by simp_all)) dX0_isLeaf_13
  · skip
    refine x_iconst C 1 (by decide) dX0_isLeaf_8 ?_
    refine x_goto C 13 dX0_isLeaf_9 (by decide) ?_
    exact x_zret C (by first | exact Or.inl rfl | exact Or.inr rfl | assumption) (po_r (by simp_all)) dX0_isLeaf_13

def bit (x : Int64) (j : Nat) : Bool := decide (¬ x &&& (1 <<< ((nI j).toInt64 &&& 63)) = 0)
set_option maxRecDepth 100000 in
set_option maxHeartbeats 4000000 in
theorem c_X0_reaches (l : Launch) (D : va_G) (dA : Nat → ClassId) (base n : Nat) (ad : Fa) (I : Fi) (J : Fj) (R : Fr) (hT : ST n R) (i j : Nat) (hi : i < n) (hj : j < n) (hn : I 4 j 0 = nI j) : CT l D dA base yX0_reaches cX0_reaches 2 (some .boolean) 0 0 0 [.ref (ad 4 i), .ref (ad 4 j)] ad (Nn n) I J R (po (some (.int (if bit (J 4 i 4) j = true then 1 else 0))) ad (Nn n) I J R) := by
  refine CT.of 0 (L0 := [some (.ref (ad 4 i)), some (.ref (ad 4 j))]) (by decide +kernel) rfl (Nat.le_of_ble_eq_true rfl) ?_
  intro p e s m args below meth c C
  refine x_aload_n C dX0_reaches_0 rfl ?_
  refine x_getJ C f_X0_33 rfl (by first | assumption | exact Nat.one_pos) dX0_reaches_1 ?_
  refine x_lconst C 1 (by decide) dX0_reaches_4 ?_
  refine x_aload_n C dX0_reaches_5 rfl ?_
  refine x_getI C f_X0_26 rfl (by first | assumption | exact Nat.one_pos) dX0_reaches_6 ?_
  refine x_lshl C dX0_reaches_9 ?_
  refine x_land C dX0_reaches_10 ?_
  refine x_lconst C 0 (by decide) dX0_reaches_11 ?_
  refine x_lcmp C dX0_reaches_12 ?_
  refine x_if_eq C 20 dX0_reaches_13 (by decide) (fun h13 => ?_) (fun h13 => ?_)
  · skip
    refine x_iconst C 0 (by decide) dX0_reaches_20 ?_
    exact x_zret C (by first | exact Or.inl rfl | exact Or.inr rfl | assumption) (po_r (by rw [hn] at h13; simp only [bit, decide_eq_true_eq]; have h := lg_cmp_eq (J 4 i 4 &&& (1 <<< ((nI j).toInt64 &&& 63))) 0; simp_all)) dX0_reaches_21
  · skip
    refine x_iconst C 1 (by decide) dX0_reaches_16 ?_
    refine x_goto C 21 dX0_reaches_17 (by decide) ?_
    exact x_zret C (by first | exact Or.inl rfl | exact Or.inr rfl | assumption) (po_r (by rw [hn] at h13; simp only [bit, decide_eq_true_eq]; have h := lg_cmp_eq (J 4 i 4 &&& (1 <<< ((nI j).toInt64 &&& 63))) 0; simp_all)) dX0_reaches_21

set_option maxRecDepth 100000 in
set_option maxHeartbeats 4000000 in
theorem c_X0_rowKey_in (l : Launch) (D : va_G) (dA : Nat → ClassId) (base n : Nat) (ad : Fa) (I : Fi) (J : Fj) (R : Fr) (hT : ST n R) (i k r j : Nat) (hi : i < n) (hr : I 4 i 3 = nI r) (hk : k < r) (hr8 : r ≤ 8) (hR : R 5 i k = some j) : CT l D dA base yX0_rowKey cX0_rowKey 2 (some (.object "KeyGraph$Key")) 0 0 0 [.ref (ad 4 i), .int (nI k)] ad (Nn n) I J R (po (some (.ref (ad 4 j))) ad (Nn n) I J R) := by
  refine CT.of 0 (L0 := [some (.ref (ad 4 i)), some (.int (nI k))]) (by decide +kernel) rfl (Nat.le_of_ble_eq_true rfl) ?_
  intro p e s m args below meth c C
  refine x_iload_n C dX0_rowKey_0 rfl ?_
  refine x_if_lt C 12 dX0_rowKey_1 (by decide) (fun h1 => ?_) (fun h1 => ?_)
  · skip
    exact absurd h1 (nI_pos (by omega))
  · skip
    refine x_iload_n C dX0_rowKey_4 rfl ?_
    refine x_aload_n C dX0_rowKey_5 rfl ?_
    refine x_getI C f_X0_37 rfl (by first | assumption | exact Nat.one_pos) dX0_rowKey_6 ?_
    refine x_icmp_lt C 16 dX0_rowKey_9 (by decide) (fun h9 => ?_) (fun h9 => ?_)
    · skip
      refine x_aload_n C dX0_rowKey_16 rfl ?_
      refine x_getF C hT f_X0_11 rfl rfl (by first | assumption | exact Nat.one_pos) dX0_rowKey_17 ?_
      refine x_iload_n C dX0_rowKey_20 rfl ?_
      refine x_aaldS C (k) rfl rfl rfl rfl (by first | assumption | exact Nat.one_pos) (by omega) (by decide) hR dX0_rowKey_21 ?_
      exact x_aret C (Or.inl ⟨_, rfl⟩) (Or.inr ⟨_, rfl⟩) (po_i _ _ _ _ _ _) dX0_rowKey_22
    · skip
      rw [hr] at h9
      exact absurd (nI_lt hk (by omega)) h9

set_option maxRecDepth 100000 in
set_option maxHeartbeats 4000000 in
theorem c_X0_rowKey_out (l : Launch) (D : va_G) (dA : Nat → ClassId) (base n : Nat) (ad : Fa) (I : Fi) (J : Fj) (R : Fr) (hT : ST n R) (i r : Nat) (x : Int32) (hi : i < n) (hr : I 4 i 3 = nI r) (hx : x < 0 ∨ nI r ≤ x) : CT l D dA base yX0_rowKey cX0_rowKey 2 (some (.object "KeyGraph$Key")) 0 0 0 [.ref (ad 4 i), .int x] ad (Nn n) I J R (po (some .null) ad (Nn n) I J R) := by
  refine CT.of 0 (L0 := [some (.ref (ad 4 i)), some (.int x)]) (by decide +kernel) rfl (Nat.le_of_ble_eq_true rfl) ?_
  intro p e s m args below meth c C
  refine x_iload_n C dX0_rowKey_0 rfl ?_
  refine x_if_lt C 12 dX0_rowKey_1 (by decide) (fun h1 => ?_) (fun h1 => ?_)
  · skip
    refine x_null C dX0_rowKey_12 ?_
    refine x_goto C 22 dX0_rowKey_13 (by decide) ?_
    exact x_aret C (Or.inl ⟨_, rfl⟩) (Or.inl rfl) (po_i _ _ _ _ _ _) dX0_rowKey_22
  · skip
    refine x_iload_n C dX0_rowKey_4 rfl ?_
    refine x_aload_n C dX0_rowKey_5 rfl ?_
    refine x_getI C f_X0_37 rfl (by first | assumption | exact Nat.one_pos) dX0_rowKey_6 ?_
    refine x_icmp_lt C 16 dX0_rowKey_9 (by decide) (fun h9 => ?_) (fun h9 => ?_)
    · skip
      rw [hr] at h9
      exact absurd h9 (hx.elim (fun q => absurd q h1) (fun q => Int32.not_lt.mpr q))
    · skip
      refine x_null C dX0_rowKey_12 ?_
      refine x_goto C 22 dX0_rowKey_13 (by decide) ?_
      exact x_aret C (Or.inl ⟨_, rfl⟩) (Or.inl rfl) (po_i _ _ _ _ _ _) dX0_rowKey_22

set_option maxRecDepth 100000 in
set_option maxHeartbeats 4000000 in
theorem c_X0_askedPlace_in (l : Launch) (D : va_G) (dA : Nat → ClassId) (base n : Nat) (ad : Fa) (I : Fi) (J : Fj) (R : Fr) (hT : ST n R) (i k r : Nat) (hi : i < n) (hr : I 4 i 13 = nI r) (hk : k < r) (hr8 : r ≤ 8) : CT l D dA base yX0_askedPlace cX0_askedPlace 2 (some .int) 0 0 0 [.ref (ad 4 i), .int (nI k)] ad (Nn n) I J R (po (some (.int (I 6 i k))) ad (Nn n) I J R) := by
  refine CT.of 0 (L0 := [some (.ref (ad 4 i)), some (.int (nI k))]) (by decide +kernel) rfl (Nat.le_of_ble_eq_true rfl) ?_
  intro p e s m args below meth c C
  refine x_iload_n C dX0_askedPlace_0 rfl ?_
  refine x_if_lt C 12 dX0_askedPlace_1 (by decide) (fun h1 => ?_) (fun h1 => ?_)
  · skip
    exact absurd h1 (nI_pos (by omega))
  · skip
    refine x_iload_n C dX0_askedPlace_4 rfl ?_
    refine x_aload_n C dX0_askedPlace_5 rfl ?_
    refine x_getI C f_X0_48 rfl (by first | assumption | exact Nat.one_pos) dX0_askedPlace_6 ?_
    refine x_icmp_lt C 16 dX0_askedPlace_9 (by decide) (fun h9 => ?_) (fun h9 => ?_)
    · skip
      refine x_aload_n C dX0_askedPlace_16 rfl ?_
      refine x_getF C hT f_X0_15 rfl rfl (by first | assumption | exact Nat.one_pos) dX0_askedPlace_17 ?_
      refine x_iload_n C dX0_askedPlace_20 rfl ?_
      refine x_ialdN C (k) rfl rfl rfl (by first | assumption | exact Nat.one_pos) (by omega) (by decide) dX0_askedPlace_21 ?_
      exact x_iret C (po_i _ _ _ _ _ _) dX0_askedPlace_22
    · skip
      rw [hr] at h9
      exact absurd (nI_lt hk (by omega)) h9

set_option maxRecDepth 100000 in
set_option maxHeartbeats 4000000 in
theorem c_X0_askedPlace_out (l : Launch) (D : va_G) (dA : Nat → ClassId) (base n : Nat) (ad : Fa) (I : Fi) (J : Fj) (R : Fr) (hT : ST n R) (i r : Nat) (x : Int32) (hi : i < n) (hr : I 4 i 13 = nI r) (hx : x < 0 ∨ nI r ≤ x) : CT l D dA base yX0_askedPlace cX0_askedPlace 2 (some .int) 0 0 0 [.ref (ad 4 i), .int x] ad (Nn n) I J R (po (some (.int (-1))) ad (Nn n) I J R) := by
  refine CT.of 0 (L0 := [some (.ref (ad 4 i)), some (.int x)]) (by decide +kernel) rfl (Nat.le_of_ble_eq_true rfl) ?_
  intro p e s m args below meth c C
  refine x_iload_n C dX0_askedPlace_0 rfl ?_
  refine x_if_lt C 12 dX0_askedPlace_1 (by decide) (fun h1 => ?_) (fun h1 => ?_)
  · skip
    refine x_iconst C (-1) (by decide) dX0_askedPlace_12 ?_
    refine x_goto C 22 dX0_askedPlace_13 (by decide) ?_
    exact x_iret C (po_i _ _ _ _ _ _) dX0_askedPlace_22
  · skip
    refine x_iload_n C dX0_askedPlace_4 rfl ?_
    refine x_aload_n C dX0_askedPlace_5 rfl ?_
    refine x_getI C f_X0_48 rfl (by first | assumption | exact Nat.one_pos) dX0_askedPlace_6 ?_
    refine x_icmp_lt C 16 dX0_askedPlace_9 (by decide) (fun h9 => ?_) (fun h9 => ?_)
    · skip
      rw [hr] at h9
      exact absurd h9 (hx.elim (fun q => absurd q h1) (fun q => Int32.not_lt.mpr q))
    · skip
      refine x_iconst C (-1) (by decide) dX0_askedPlace_12 ?_
      refine x_goto C 22 dX0_askedPlace_13 (by decide) ?_
      exact x_iret C (po_i _ _ _ _ _ _) dX0_askedPlace_22

/-- what startWorking sets -/
def swI (I : Fi) (i : Nat) : Fi := up3 (up3 (up3 I 7 i 0 0) 7 i 1 0) 7 i 4 (if ¬ I 4 i 5 = 0 ∨ (I 4 i 1 = 5 ∧ I 4 i 3 = 0) then 1 else 0)
def stI (I : Fi) (i : Nat) : Fi := up3 (swI I i) 7 i 0 (if ¬ I 4 i 10 = 0 ∧ I 4 i 6 ≤ I 4 i 11 then 1 else 0)
theorem swI_4 (I : Fi) (i j k : Nat) : swI I i 4 j k = I 4 j k := by simp [swI, up3]
set_option maxRecDepth 100000 in
set_option maxHeartbeats 4000000 in
theorem c_X2_startWorking (l : Launch) (D : va_G) (dA : Nat → ClassId) (base n : Nat) (ad : Fa) (I : Fi) (J : Fj) (R : Fr) (hT : ST n R) (i : Nat) (hi : i < n) : CT l D dA base yX2_startWorking cX2_startWorking 2 none 0 0 0 [.ref (ad 7 i), .ref (ad 4 i)] ad (Nn n) I J R (po none ad (Nn n) (swI I i) (up3 J 7 i 3 0) R) := by
  refine CT.of 0 (L0 := [some (.ref (ad 7 i)), some (.ref (ad 4 i))]) (by decide +kernel) rfl (Nat.le_of_ble_eq_true rfl) ?_
  intro p e s m args below meth c C
  refine x_aload_n C dX2_startWorking_0 rfl ?_
  refine x_iconst C 0 (by decide) dX2_startWorking_1 ?_
  refine x_putZ C g_X2_32 rfl (by first | assumption | exact Nat.one_pos) (by first | exact Or.inl rfl | exact Or.inr rfl | assumption) dX2_startWorking_2 ?_
  refine x_aload_n C dX2_startWorking_5 rfl ?_
  refine x_iconst C 0 (by decide) dX2_startWorking_6 ?_
  refine x_putI C g_X2_35 rfl (by first | assumption | exact Nat.one_pos) dX2_startWorking_7 ?_
  refine x_aload_n C dX2_startWorking_10 rfl ?_
  refine x_lconst C 0 (by decide) dX2_startWorking_11 ?_
  refine x_putJ C g_X2_38 rfl (by first | assumption | exact Nat.one_pos) dX2_startWorking_12 ?_
  refine x_aload_n C dX2_startWorking_15 rfl ?_
  refine x_aload_n C dX2_startWorking_16 rfl ?_
  refine x_getI C f_X2_42 rfl (by first | assumption | exact Nat.one_pos) dX2_startWorking_17 ?_
  refine x_if_ne C 38 dX2_startWorking_20 (by decide) (fun h20 => ?_) (fun h20 => ?_)
  · skip
    refine x_iconst C 1 (by decide) dX2_startWorking_38 ?_
    refine x_goto C 43 dX2_startWorking_39 (by decide) ?_
    refine x_putZ C g_X2_51 rfl (by first | assumption | exact Nat.one_pos) (by first | exact Or.inl rfl | exact Or.inr rfl | assumption) dX2_startWorking_43 ?_
    exact x_vret C (⟨rfl, rfl, rfl, by (unfold swI; congr 1; simp_all [up3]), rfl, rfl⟩) dX2_startWorking_46
  · skip
    refine x_aload_n C dX2_startWorking_23 rfl ?_
    refine x_getI C f_X2_45 rfl (by first | assumption | exact Nat.one_pos) dX2_startWorking_24 ?_
    refine x_iconst C 5 (by decide) dX2_startWorking_27 ?_
    refine x_icmp_ne C 42 dX2_startWorking_28 (by decide) (fun h28 => ?_) (fun h28 => ?_)
    · skip
      refine x_iconst C 0 (by decide) dX2_startWorking_42 ?_
      refine x_putZ C g_X2_51 rfl (by first | assumption | exact Nat.one_pos) (by first | exact Or.inl rfl | exact Or.inr rfl | assumption) dX2_startWorking_43 ?_
      exact x_vret C (⟨rfl, rfl, rfl, by (unfold swI; congr 1; simp_all [up3]), rfl, rfl⟩) dX2_startWorking_46
    · skip
      refine x_aload_n C dX2_startWorking_31 rfl ?_
      refine x_getI C f_X2_48 rfl (by first | assumption | exact Nat.one_pos) dX2_startWorking_32 ?_
      refine x_if_ne C 42 dX2_startWorking_35 (by decide) (fun h35 => ?_) (fun h35 => ?_)
      · skip
        refine x_iconst C 0 (by decide) dX2_startWorking_42 ?_
        refine x_putZ C g_X2_51 rfl (by first | assumption | exact Nat.one_pos) (by first | exact Or.inl rfl | exact Or.inr rfl | assumption) dX2_startWorking_43 ?_
        exact x_vret C (⟨rfl, rfl, rfl, by (unfold swI; congr 1; simp_all [up3]), rfl, rfl⟩) dX2_startWorking_46
      · skip
        refine x_iconst C 1 (by decide) dX2_startWorking_38 ?_
        refine x_goto C 43 dX2_startWorking_39 (by decide) ?_
        refine x_putZ C g_X2_51 rfl (by first | assumption | exact Nat.one_pos) (by first | exact Or.inl rfl | exact Or.inr rfl | assumption) dX2_startWorking_43 ?_
        exact x_vret C (⟨rfl, rfl, rfl, by (unfold swI; congr 1; simp_all [up3]), rfl, rfl⟩) dX2_startWorking_46

set_option maxRecDepth 100000 in
set_option maxHeartbeats 4000000 in
theorem c_X2_start (l : Launch) (D : va_G) (dA : Nat → ClassId) (base n : Nat) (ad : Fa) (I : Fi) (J : Fj) (R : Fr) (hT : ST n R) (i : Nat) (hi : i < n) : CT l D dA base yX2_start cX2_start 2 none 1 0 0 [.ref (ad 7 i), .ref (ad 4 i)] ad (Nn n) I J R (po none ad (Nn n) (stI I i) (up3 J 7 i 3 0) R) := by
  refine CT.of 0 (L0 := [some (.ref (ad 7 i)), some (.ref (ad 4 i))]) (by decide +kernel) rfl (Nat.le_of_ble_eq_true rfl) ?_
  intro p e s m args below meth c C
  refine x_aload_n C dX2_start_0 rfl ?_
  refine x_aload_n C dX2_start_1 rfl ?_
  refine x_cV0 C yo_X2_startWorking m_X2_15 rfl rfl (by first | assumption | exact Nat.one_pos) (c_X2_startWorking l D dA base n ad I J R hT i hi) dX2_start_2 rfl rfl (Nat.le_of_ble_eq_true rfl) ⟨by decide, by decide⟩ ⟨by decide, by decide⟩ ?_
  refine x_aload_n C dX2_start_5 rfl ?_
  refine x_aload_n C dX2_start_6 rfl ?_
  refine x_getI C f_X2_19 rfl (by first | assumption | exact Nat.one_pos) dX2_start_7 ?_
  refine x_if_eq C 28 dX2_start_10 (by decide) (fun h10 => ?_) (fun h10 => ?_)
  · skip
    refine x_iconst C 0 (by decide) dX2_start_28 ?_
    refine x_putZ C g_X2_32 rfl (by first | assumption | exact Nat.one_pos) (by first | exact Or.inl rfl | exact Or.inr rfl | assumption) dX2_start_29 ?_
    exact x_vret C (⟨rfl, rfl, rfl, by (unfold stI; congr 1; simp_all [swI_4]), rfl, rfl⟩) dX2_start_32
  · skip
    refine x_aload_n C dX2_start_13 rfl ?_
    refine x_getI C f_X2_25 rfl (by first | assumption | exact Nat.one_pos) dX2_start_14 ?_
    refine x_aload_n C dX2_start_17 rfl ?_
    refine x_getI C f_X2_29 rfl (by first | assumption | exact Nat.one_pos) dX2_start_18 ?_
    refine x_icmp_gt C 28 dX2_start_21 (by decide) (fun h21 => ?_) (fun h21 => ?_)
    · skip
      refine x_iconst C 0 (by decide) dX2_start_28 ?_
      refine x_putZ C g_X2_32 rfl (by first | assumption | exact Nat.one_pos) (by first | exact Or.inl rfl | exact Or.inr rfl | assumption) dX2_start_29 ?_
      exact x_vret C (⟨rfl, rfl, rfl, by (unfold stI; congr 1; simp_all [swI_4]), rfl, rfl⟩) dX2_start_32
    · skip
      refine x_iconst C 1 (by decide) dX2_start_24 ?_
      refine x_goto C 29 dX2_start_25 (by decide) ?_
      refine x_putZ C g_X2_32 rfl (by first | assumption | exact Nat.one_pos) (by first | exact Or.inl rfl | exact Or.inr rfl | assumption) dX2_start_29 ?_
      exact x_vret C (⟨rfl, rfl, rfl, by (unfold stI; congr 1; simp_all [swI_4]), rfl, rfl⟩) dX2_start_32

theorem CT.ofF {l : Launch} {D : va_G} {dA : Nat → ClassId} {base : Nat} {y : MethodName} {cc : ByteArray} {maxL : Nat} {ret : Option FieldType} {d mc ms : Nat} {as : List Value} {ad : Fa} {N : Nat → Nat} {I : Fi} {J : Fj} {R : Fr} {post : Po} (t : Nat) {L0 : List (Option Value)} (hy : plainFor y = true) (hL : argL as ++ List.replicate t none = L0) (hlen : (lg_sl as).length ≤ maxL)
    (body : ∀ (p : Program) (e : Env) (s : State) (m : MethodId) (args : Array Value) (below : List Frame) (meth : Method) (c : Code), CX p s m args meth c cc maxL y.cls ret D dA base → GX p l e (rmX d mc ms) s m args below meth c (MQ below (CQ D dA base post) args s mc ms (fun q => base ≤ q)) D dA base maxL ad N I J R 0 0 0 L0 []) : CT l D dA base y cc maxL ret d mc ms as ad N I J R post := by
  refine va_MetF (cc := cc) (maxL := maxL) (ret := ret) hy rfl ?_
  intro p e s m args below meth c s₁ B hml hv
  obtain ⟨rfl, hb, hH, hK⟩ := hv
  have hts := atoms_spec (ws := Cond.code y cc maxL ret :: lw_gd) B.pre
  have C : CX p s m as.toArray meth c cc maxL y.cls ret D dA base := ⟨B.exec, B.bytes, hml, findClass_of_methodNamed B.named, fun w h => hts w (List.mem_cons_of_mem _ h), hK, hb, B.returns, B.notSynchronized⟩
  rw [lg_entry_eq]
  exact body p e s m _ below meth c C s.heap [] _ hH va_S.rf (hL ▸ LVx.entry as t hlen)
set_option maxRecDepth 100000 in
set_option maxHeartbeats 4000000 in
theorem c_floorMod (l : Launch) (D : va_G) (dA : Nat → ClassId) (base n : Nat) (ad : Fa) (I : Fi) (J : Fj) (R : Fr) (x y : Int64) (hy : ¬ y = 0) : CT l D dA base yJ9_floorMod_f86c9 cJ9_floorMod_f86c9 6 (some .long) 0 0 0 [.long x, .long y] ad (Nn n) I J R (po (some (.long (fmd x y))) ad (Nn n) I J R) := by
  refine CT.ofF 2 (L0 := [some (.long x), none, some (.long y), none, none, none]) (by decide +kernel) rfl (Nat.le_of_ble_eq_true rfl) ?_
  intro p e s m args below meth c C
  refine x_lload_n C dJ9_floorMod_f86c9_0 rfl ?_
  refine x_lload_n C dJ9_floorMod_f86c9_1 rfl ?_
  refine x_lrem C hy dJ9_floorMod_f86c9_2 ?_
  refine x_lstore C dJ9_floorMod_f86c9_3 (by decide) rfl rfl ?_
  refine x_lload_n C dJ9_floorMod_f86c9_5 rfl ?_
  refine x_lload_n C dJ9_floorMod_f86c9_6 rfl ?_
  refine x_lxor C dJ9_floorMod_f86c9_7 ?_
  refine x_lconst C 0 (by decide) dJ9_floorMod_f86c9_8 ?_
  refine x_lcmp C dJ9_floorMod_f86c9_9 ?_
  refine x_if_ge C 25 dJ9_floorMod_f86c9_10 (by decide) (fun h10 => ?_) (fun h10 => ?_)
  · skip
    rw [lg_cmp_ge] at h10
    refine x_lload C dJ9_floorMod_f86c9_25 rfl ?_
    exact x_lret C (po_r (by unfold fmd; rw [if_neg (fun z => absurd z.1 (Int64.not_lt.mpr h10))])) dJ9_floorMod_f86c9_27
  · skip
    rw [lg_cmp_ge] at h10
    refine x_lload C dJ9_floorMod_f86c9_13 rfl ?_
    refine x_lconst C 0 (by decide) dJ9_floorMod_f86c9_15 ?_
    refine x_lcmp C dJ9_floorMod_f86c9_16 ?_
    refine x_if_eq C 25 dJ9_floorMod_f86c9_17 (by decide) (fun h17 => ?_) (fun h17 => ?_)
    · skip
      rw [lg_cmp_eq] at h17
      refine x_lload C dJ9_floorMod_f86c9_25 rfl ?_
      exact x_lret C (po_r (by unfold fmd; rw [if_neg (fun z => z.2 h17)])) dJ9_floorMod_f86c9_27
    · skip
      rw [lg_cmp_eq] at h17
      refine x_lload C dJ9_floorMod_f86c9_20 rfl ?_
      refine x_lload_n C dJ9_floorMod_f86c9_22 rfl ?_
      refine x_ladd C dJ9_floorMod_f86c9_23 ?_
      exact x_lret C (po_r (by unfold fmd; rw [if_pos ⟨Int64.not_le.mp h10, h17⟩])) dJ9_floorMod_f86c9_24

set_option maxRecDepth 100000 in
set_option maxHeartbeats 4000000 in
theorem c_X2_nextPick (l : Launch) (D : va_G) (dA : Nat → ClassId) (base n : Nat) (ad : Fa) (I : Fi) (J : Fj) (R : Fr) (hT : ST n R) (i k oo : Nat) (hi : i < n) (hk : I 7 i 1 = nI k) (hk8 : k ≤ 8) (ho : oo ≤ 8) : CT l D dA base yX2_nextPick cX2_nextPick 2 (some .int) 1 0 0 [.ref (ad 7 i), .int (nI oo)] ad (Nn n) I J R (po (some (.int (npk k oo (J 7 i 3)))) ad (Nn n) I J R) := by
  refine CT.of 0 (L0 := [some (.ref (ad 7 i)), some (.int (nI oo))]) (by decide +kernel) rfl (Nat.le_of_ble_eq_true rfl) ?_
  intro p e s m args below meth c C
  refine x_aload_n C dX2_nextPick_0 rfl ?_
  refine x_getI C f_X2_35 rfl (by first | assumption | exact Nat.one_pos) dX2_nextPick_1 ?_
  refine x_if_ne C 9 dX2_nextPick_4 (by decide) (fun h4 => ?_) (fun h4 => ?_)
  · skip
    have q4 : ¬ k = 0 := fun z => h4 (by rw [hk, z]; rfl)
    refine x_aload_n C dX2_nextPick_9 rfl ?_
    refine x_getI C f_X2_35 rfl (by first | assumption | exact Nat.one_pos) dX2_nextPick_10 ?_
    refine x_iconst C 1 (by decide) dX2_nextPick_13 ?_
    refine x_icmp_gt C 21 dX2_nextPick_14 (by decide) (fun h14 => ?_) (fun h14 => ?_)
    · skip
      have q14 : 1 < k := (nI_ltI (a := 1) (by omega) (by omega)).mp (by rw [← hk]; exact h14)
      refine x_iconst C (-1) (by decide) dX2_nextPick_21 ?_
      exact x_iret C (po_r (by unfold npk; rw [if_neg q4, if_pos (Or.inl q14)])) dX2_nextPick_22
    · skip
      have q14 : ¬ 1 < k := fun z => h14 (by rw [hk]; exact nI_lt (a := 1) z (by omega))
      refine x_iload_n C dX2_nextPick_17 rfl ?_
      refine x_if_gt C 23 dX2_nextPick_18 (by decide) (fun h18 => ?_) (fun h18 => ?_)
      · skip
        have q18 : ¬ oo = 0 := fun z => absurd h18 (by rw [z]; decide)
        refine x_iconst C 1 (by decide) dX2_nextPick_23 ?_
        refine x_aload_n C dX2_nextPick_24 rfl ?_
        refine x_getJ C f_X2_38 rfl (by first | assumption | exact Nat.one_pos) dX2_nextPick_25 ?_
        refine x_iload_n C dX2_nextPick_28 rfl ?_
        refine x_i2l C dX2_nextPick_29 ?_
        rw [nI_l (show oo < 2 ^ 31 by omega)]
        refine x_cO1 C yo_floorMod m_X2_58 (c_floorMod l D dA base n ad I J R (J 7 i 3) (lN oo) (fun z => q18 ((lN_eq (by omega) (by decide)).mp z))) dX2_nextPick_30 rfl rfl (by decide) ⟨by decide, by decide⟩ ⟨by decide, by decide⟩ ?_
        refine x_l2i C dX2_nextPick_33 ?_
        refine x_iadd C dX2_nextPick_34 ?_
        exact x_iret C (po_r (by unfold npk; rw [if_neg q4, if_neg (by omega)])) dX2_nextPick_35
      · skip
        have q18 : oo = 0 := (Nat.eq_zero_or_pos oo).elim id (fun z => absurd (nI_lt (a := 0) z (by omega)) h18)
        refine x_iconst C (-1) (by decide) dX2_nextPick_21 ?_
        exact x_iret C (po_r (by unfold npk; rw [if_neg q4, if_pos (Or.inr q18)])) dX2_nextPick_22
  · skip
    have q4 : k = 0 := (nI_eq (by omega) (by omega)).mp (hk.symm.trans (h4.trans nI_0.symm))
    refine x_iconst C 0 (by decide) dX2_nextPick_7 ?_
    exact x_iret C (po_r (by unfold npk; rw [if_pos q4])) dX2_nextPick_8

set_option maxRecDepth 100000 in
set_option maxHeartbeats 4000000 in
theorem c_X2_nextPlace (l : Launch) (D : va_G) (dA : Nat → ClassId) (base n : Nat) (ad : Fa) (I : Fi) (J : Fj) (R : Fr) (hT : ST n R) (i f k r : Nat) (hi : i < n) (hf : I 4 i 1 = nI f) (hf6 : f < 6) (hk : I 7 i 1 = nI k) (hk8 : k ≤ 8) (hr : I 4 i 3 = nI r) (hr8 : r ≤ 8) : CT l D dA base yX2_nextPlace cX2_nextPlace 2 (some .int) 2 0 0 [.ref (ad 7 i), .ref (ad 4 i)] ad (Nn n) I J R (po (some (.int (npl (I 7 i 4) f k r (J 7 i 3)))) ad (Nn n) I J R) := by
  refine CT.of 0 (L0 := [some (.ref (ad 7 i)), some (.ref (ad 4 i))]) (by decide +kernel) rfl (Nat.le_of_ble_eq_true rfl) ?_
  intro p e s m args below meth c C
  refine x_aload_n C dX2_nextPlace_0 rfl ?_
  refine x_getI C f_X2_51 rfl (by first | assumption | exact Nat.one_pos) dX2_nextPlace_1 ?_
  refine x_if_ne C 18 dX2_nextPlace_4 (by decide) (fun h4 => ?_) (fun h4 => ?_)
  · skip
    refine x_iconst C (-1) (by decide) dX2_nextPlace_18 ?_
    exact x_iret C (po_r (by unfold npl; rw [if_pos (Or.inl h4)])) dX2_nextPlace_19
  · skip
    refine x_aload_n C dX2_nextPlace_7 rfl ?_
    refine x_getI C f_X2_35 rfl (by first | assumption | exact Nat.one_pos) dX2_nextPlace_8 ?_
    refine x_aload_n C dX2_nextPlace_11 rfl ?_
    refine x_getI C f_X2_48 rfl (by first | assumption | exact Nat.one_pos) dX2_nextPlace_12 ?_
    refine x_icmp_lt C 20 dX2_nextPlace_15 (by decide) (fun h15 => ?_) (fun h15 => ?_)
    · skip
      rw [hk, hr] at h15
      have q15 : k < r := (nI_ltI (by omega) (by omega)).mp h15
      rcases (show f = 0 ∨ f = 1 ∨ f = 2 ∨ f = 3 ∨ f = 4 ∨ f = 5 by omega) with rfl | rfl | rfl | rfl | rfl | rfl
      · skip
        refine x_aload_n C dX2_nextPlace_20 rfl ?_
        refine x_getI C f_X2_45 rfl (by first | assumption | exact Nat.one_pos) dX2_nextPlace_21 ?_
        refine x_lookup C 81 dX2_nextPlace_24 rfl (by rw [hf]) (by decide) ?_
        refine x_aload_n C dX2_nextPlace_81 rfl ?_
        refine x_getI C f_X2_35 rfl (by first | assumption | exact Nat.one_pos) dX2_nextPlace_82 ?_
        exact x_iret C (po_r (by unfold npl; rw [if_neg (fun z => z.elim (fun w => w h4) (fun w => absurd q15 (Nat.not_lt.mpr w)))]; rw [hk]; rfl)) dX2_nextPlace_85
      · skip
        refine x_aload_n C dX2_nextPlace_20 rfl ?_
        refine x_getI C f_X2_45 rfl (by first | assumption | exact Nat.one_pos) dX2_nextPlace_21 ?_
        refine x_lookup C 52 dX2_nextPlace_24 rfl (by rw [hf]) (by decide) ?_
        refine x_aload_n C dX2_nextPlace_52 rfl ?_
        refine x_getJ C f_X2_38 rfl (by first | assumption | exact Nat.one_pos) dX2_nextPlace_53 ?_
        refine x_lconst C 0 (by decide) dX2_nextPlace_56 ?_
        refine x_lcmp C dX2_nextPlace_57 ?_
        refine x_if_ne C 68 dX2_nextPlace_58 (by decide) (fun h58 => ?_) (fun h58 => ?_)
        · skip
          rw [lg_ne] at h58
          refine x_iconst C (-1) (by decide) dX2_nextPlace_68 ?_
          exact x_iret C (po_r (by unfold npl; rw [if_neg (fun z => z.elim (fun w => w h4) (fun w => absurd q15 (Nat.not_lt.mpr w)))]; simp_all)) dX2_nextPlace_69
        · skip
          rw [lg_cmp_eq] at h58
          refine x_aload_n C dX2_nextPlace_61 rfl ?_
          refine x_getI C f_X2_35 rfl (by first | assumption | exact Nat.one_pos) dX2_nextPlace_62 ?_
          refine x_goto C 69 dX2_nextPlace_65 (by decide) ?_
          exact x_iret C (po_r (by unfold npl; rw [if_neg (fun z => z.elim (fun w => w h4) (fun w => absurd q15 (Nat.not_lt.mpr w)))]; simp_all)) dX2_nextPlace_69
      · skip
        refine x_aload_n C dX2_nextPlace_20 rfl ?_
        refine x_getI C f_X2_45 rfl (by first | assumption | exact Nat.one_pos) dX2_nextPlace_21 ?_
        refine x_lookup C 70 dX2_nextPlace_24 rfl (by rw [hf]) (by decide) ?_
        refine x_aload_n C dX2_nextPlace_70 rfl ?_
        refine x_aload_n C dX2_nextPlace_71 rfl ?_
        refine x_getI C f_X2_48 rfl (by first | assumption | exact Nat.one_pos) dX2_nextPlace_72 ?_
        refine x_iconst C 1 (by decide) dX2_nextPlace_75 ?_
        refine x_isub C dX2_nextPlace_76 ?_
        rw [hr, nI_m1 (by omega)]
        refine x_cV1 C yo_X2_nextPick m_X2_54 rfl rfl (by first | assumption | exact Nat.one_pos) (c_X2_nextPick l D dA base n ad I J R hT i k (r - 1) hi hk hk8 (by omega)) dX2_nextPlace_77 rfl rfl (Nat.le_of_ble_eq_true rfl) ⟨by decide, by decide⟩ ⟨by decide, by decide⟩ ?_
        exact x_iret C (po_r (by unfold npl; rw [if_neg (fun z => z.elim (fun w => w h4) (fun w => absurd q15 (Nat.not_lt.mpr w)))]; rfl)) dX2_nextPlace_80
      · skip
        refine x_aload_n C dX2_nextPlace_20 rfl ?_
        refine x_getI C f_X2_45 rfl (by first | assumption | exact Nat.one_pos) dX2_nextPlace_21 ?_
        refine x_lookup C 81 dX2_nextPlace_24 rfl (by rw [hf]) (by decide) ?_
        refine x_aload_n C dX2_nextPlace_81 rfl ?_
        refine x_getI C f_X2_35 rfl (by first | assumption | exact Nat.one_pos) dX2_nextPlace_82 ?_
        exact x_iret C (po_r (by unfold npl; rw [if_neg (fun z => z.elim (fun w => w h4) (fun w => absurd q15 (Nat.not_lt.mpr w)))]; rw [hk]; rfl)) dX2_nextPlace_85
      · skip
        refine x_aload_n C dX2_nextPlace_20 rfl ?_
        refine x_getI C f_X2_45 rfl (by first | assumption | exact Nat.one_pos) dX2_nextPlace_21 ?_
        refine x_lookup C 81 dX2_nextPlace_24 rfl (by rw [hf]) (by decide) ?_
        refine x_aload_n C dX2_nextPlace_81 rfl ?_
        refine x_getI C f_X2_35 rfl (by first | assumption | exact Nat.one_pos) dX2_nextPlace_82 ?_
        exact x_iret C (po_r (by unfold npl; rw [if_neg (fun z => z.elim (fun w => w h4) (fun w => absurd q15 (Nat.not_lt.mpr w)))]; rw [hk]; rfl)) dX2_nextPlace_85
      · skip
        refine x_aload_n C dX2_nextPlace_20 rfl ?_
        refine x_getI C f_X2_45 rfl (by first | assumption | exact Nat.one_pos) dX2_nextPlace_21 ?_
        refine x_lookup C 81 dX2_nextPlace_24 rfl (by rw [hf]) (by decide) ?_
        refine x_aload_n C dX2_nextPlace_81 rfl ?_
        refine x_getI C f_X2_35 rfl (by first | assumption | exact Nat.one_pos) dX2_nextPlace_82 ?_
        exact x_iret C (po_r (by unfold npl; rw [if_neg (fun z => z.elim (fun w => w h4) (fun w => absurd q15 (Nat.not_lt.mpr w)))]; rw [hk]; rfl)) dX2_nextPlace_85
    · skip
      rw [hk, hr] at h15
      have q15 : r ≤ k := Nat.not_lt.mp (fun z => h15 ((nI_ltI (by omega) (by omega)).mpr z))
      refine x_iconst C (-1) (by decide) dX2_nextPlace_18 ?_
      exact x_iret C (po_r (by unfold npl; rw [if_pos (Or.inr q15)])) dX2_nextPlace_19

set_option maxRecDepth 100000 in
set_option maxHeartbeats 4000000 in
theorem c_X2_divide (l : Launch) (D : va_G) (dA : Nat → ClassId) (base n : Nat) (ad : Fa) (I : Fi) (J : Fj) (R : Fr) (hT : ST n R) (i k : Nat) (v : Int64) (hi : i < n) (hk : I 7 i 1 = nI k) (hk8 : k ≤ 8) : CT l D dA base yX2_divide cX2_divide 3 none 0 0 0 [.ref (ad 7 i), .long v] ad (Nn n) I J R (po none ad (Nn n) (up3 I 7 i 4 (tkF 3 k (I 7 i 4) v)) (up3 J 7 i 3 (tkG 3 k (J 7 i 3) v)) R) := by
  refine CT.of 0 (L0 := [some (.ref (ad 7 i)), some (.long v), none]) (by decide +kernel) rfl (Nat.le_of_ble_eq_true rfl) ?_
  intro p e s m args below meth c C
  refine x_aload_n C dX2_divide_0 rfl ?_
  refine x_getI C f_X2_35 rfl (by first | assumption | exact Nat.one_pos) dX2_divide_1 ?_
  refine x_if_ne C 15 dX2_divide_4 (by decide) (fun h4 => ?_) (fun h4 => ?_)
  · skip
    have q4 : ¬ k = 0 := fun z => h4 (by rw [hk, z]; rfl)
    refine x_lload_n C dX2_divide_15 rfl ?_
    refine x_lconst C 0 (by decide) dX2_divide_16 ?_
    refine x_lcmp C dX2_divide_17 ?_
    refine x_if_ne C 29 dX2_divide_18 (by decide) (fun h18 => ?_) (fun h18 => ?_)
    · skip
      rw [lg_ne] at h18
      refine x_aload_n C dX2_divide_29 rfl ?_
      refine x_dup C rfl dX2_divide_30 ?_
      refine x_getJ C f_X2_38 rfl (by first | assumption | exact Nat.one_pos) dX2_divide_31 ?_
      refine x_lload_n C dX2_divide_34 rfl ?_
      refine x_ldiv C h18 dX2_divide_35 ?_
      refine x_putJ C g_X2_38 rfl (by first | assumption | exact Nat.one_pos) dX2_divide_36 ?_
      exact x_vret C (⟨rfl, rfl, rfl, by simp [tkF, q4, h18, up3_e], by simp [tkG, q4, h18, up3_e], rfl⟩) dX2_divide_39
    · skip
      rw [lg_cmp_eq] at h18
      refine x_aload_n C dX2_divide_21 rfl ?_
      refine x_iconst C 1 (by decide) dX2_divide_22 ?_
      refine x_putZ C g_X2_51 rfl (by first | assumption | exact Nat.one_pos) (by first | exact Or.inl rfl | exact Or.inr rfl | assumption) dX2_divide_23 ?_
      refine x_goto C 39 dX2_divide_26 (by decide) ?_
      exact x_vret C (⟨rfl, rfl, rfl, by simp [tkF, q4, h18, up3_e], by simp [tkG, q4, h18, up3_e], rfl⟩) dX2_divide_39
  · skip
    have q4 : k = 0 := (nI_eq (by omega) (by omega)).mp (hk.symm.trans (h4.trans nI_0.symm))
    refine x_aload_n C dX2_divide_7 rfl ?_
    refine x_lload_n C dX2_divide_8 rfl ?_
    refine x_putJ C g_X2_38 rfl (by first | assumption | exact Nat.one_pos) dX2_divide_9 ?_
    refine x_goto C 39 dX2_divide_12 (by decide) ?_
    exact x_vret C (⟨rfl, rfl, rfl, by simp [tkF, q4, up3_e], by simp [tkG, q4], rfl⟩) dX2_divide_39

set_option maxRecDepth 100000 in
set_option maxHeartbeats 4000000 in
theorem c_X2_take (l : Launch) (D : va_G) (dA : Nat → ClassId) (base n : Nat) (ad : Fa) (I : Fi) (J : Fj) (R : Fr) (hT : ST n R) (i f k : Nat) (v : Int64) (hi : i < n) (hf : I 4 i 1 = nI f) (hf6 : f < 6) (hk : I 7 i 1 = nI k) (hk8 : k ≤ 8) : CT l D dA base yX2_take cX2_take 4 none 1 0 0 [.ref (ad 7 i), .ref (ad 4 i), .long v] ad (Nn n) I J R (po none ad (Nn n) (up3 I 7 i 4 (tkF f k (I 7 i 4) v)) (up3 J 7 i 3 (tkG f k (J 7 i 3) v)) R) := by
  refine CT.of 0 (L0 := [some (.ref (ad 7 i)), some (.ref (ad 4 i)), some (.long v), none]) (by decide +kernel) rfl (Nat.le_of_ble_eq_true rfl) ?_
  intro p e s m args below meth c C
  rcases (show f = 0 ∨ f = 1 ∨ f = 2 ∨ f = 3 ∨ f = 4 ∨ f = 5 by omega) with rfl | rfl | rfl | rfl | rfl | rfl
  · skip
    refine x_aload_n C dX2_take_0 rfl ?_
    refine x_getI C f_X2_45 rfl (by first | assumption | exact Nat.one_pos) dX2_take_1 ?_
    refine x_tableOut C 82 dX2_take_4 (by rw [hf]; decide) (by decide) ?_
    refine x_aload_n C dX2_take_82 rfl ?_
    refine x_dup C rfl dX2_take_83 ?_
    refine x_getJ C f_X2_38 rfl (by first | assumption | exact Nat.one_pos) dX2_take_84 ?_
    refine x_lload_n C dX2_take_87 rfl ?_
    refine x_ladd C dX2_take_88 ?_
    refine x_putJ C g_X2_38 rfl (by first | assumption | exact Nat.one_pos) dX2_take_89 ?_
    exact x_vret C (⟨rfl, rfl, rfl, by simp [tkF, up3_e], by simp [tkG], rfl⟩) dX2_take_92
  · skip
    refine x_aload_n C dX2_take_0 rfl ?_
    refine x_getI C f_X2_45 rfl (by first | assumption | exact Nat.one_pos) dX2_take_1 ?_
    refine x_tableIn C 40 (off := 36) dX2_take_4 (by rw [hf]; decide) (by rw [hf]; decide) (by rw [hf]; decide +kernel) (by decide) ?_
    refine x_aload_n C dX2_take_40 rfl ?_
    refine x_lload_n C dX2_take_41 rfl ?_
    refine x_putJ C g_X2_38 rfl (by first | assumption | exact Nat.one_pos) dX2_take_42 ?_
    refine x_goto C 92 dX2_take_45 (by decide) ?_
    exact x_vret C (⟨rfl, rfl, rfl, by simp [tkF, up3_e], by simp [tkG], rfl⟩) dX2_take_92
  · skip
    refine x_aload_n C dX2_take_0 rfl ?_
    refine x_getI C f_X2_45 rfl (by first | assumption | exact Nat.one_pos) dX2_take_1 ?_
    refine x_tableIn C 40 (off := 36) dX2_take_4 (by rw [hf]; decide) (by rw [hf]; decide) (by rw [hf]; decide +kernel) (by decide) ?_
    refine x_aload_n C dX2_take_40 rfl ?_
    refine x_lload_n C dX2_take_41 rfl ?_
    refine x_putJ C g_X2_38 rfl (by first | assumption | exact Nat.one_pos) dX2_take_42 ?_
    refine x_goto C 92 dX2_take_45 (by decide) ?_
    exact x_vret C (⟨rfl, rfl, rfl, by simp [tkF, up3_e], by simp [tkG], rfl⟩) dX2_take_92
  · skip
    refine x_aload_n C dX2_take_0 rfl ?_
    refine x_getI C f_X2_45 rfl (by first | assumption | exact Nat.one_pos) dX2_take_1 ?_
    refine x_tableIn C 48 (off := 44) dX2_take_4 (by rw [hf]; decide) (by rw [hf]; decide) (by rw [hf]; decide +kernel) (by decide) ?_
    refine x_aload_n C dX2_take_48 rfl ?_
    refine x_lload_n C dX2_take_49 rfl ?_
    refine x_cV0 C yo_X2_divide m_X2_64 rfl rfl (by first | assumption | exact Nat.one_pos) (c_X2_divide l D dA base n ad I J R hT i k v hi hk hk8) dX2_take_50 rfl rfl (Nat.le_of_ble_eq_true rfl) ⟨by decide, by decide⟩ ⟨by decide, by decide⟩ ?_
    refine x_goto C 92 dX2_take_53 (by decide) ?_
    exact x_vret C (po_i _ _ _ _ _ _) dX2_take_92
  · skip
    refine x_aload_n C dX2_take_0 rfl ?_
    refine x_getI C f_X2_45 rfl (by first | assumption | exact Nat.one_pos) dX2_take_1 ?_
    refine x_tableIn C 82 (off := 78) dX2_take_4 (by rw [hf]; decide) (by rw [hf]; decide) (by rw [hf]; decide +kernel) (by decide) ?_
    refine x_aload_n C dX2_take_82 rfl ?_
    refine x_dup C rfl dX2_take_83 ?_
    refine x_getJ C f_X2_38 rfl (by first | assumption | exact Nat.one_pos) dX2_take_84 ?_
    refine x_lload_n C dX2_take_87 rfl ?_
    refine x_ladd C dX2_take_88 ?_
    refine x_putJ C g_X2_38 rfl (by first | assumption | exact Nat.one_pos) dX2_take_89 ?_
    exact x_vret C (⟨rfl, rfl, rfl, by simp [tkF, up3_e], by simp [tkG], rfl⟩) dX2_take_92
  · skip
    refine x_aload_n C dX2_take_0 rfl ?_
    refine x_getI C f_X2_45 rfl (by first | assumption | exact Nat.one_pos) dX2_take_1 ?_
    refine x_tableIn C 56 (off := 52) dX2_take_4 (by rw [hf]; decide) (by rw [hf]; decide) (by rw [hf]; decide +kernel) (by decide) ?_
    refine x_aload_n C dX2_take_56 rfl ?_
    refine x_aload_n C dX2_take_57 rfl ?_
    refine x_getI C f_X2_35 rfl (by first | assumption | exact Nat.one_pos) dX2_take_58 ?_
    refine x_if_ne C 68 dX2_take_61 (by decide) (fun h61 => ?_) (fun h61 => ?_)
    · skip
      have q61 : ¬ k = 0 := fun z => h61 (by rw [hk, z]; rfl)
      refine x_aload_n C dX2_take_68 rfl ?_
      refine x_getJ C f_X2_38 rfl (by first | assumption | exact Nat.one_pos) dX2_take_69 ?_
      refine x_lload_n C dX2_take_72 rfl ?_
      refine x_lmax C mx_1 mx_2 mx_3 mx_4 (by decide) (Nat.le_of_ble_eq_true rfl) (by decide) (by decide) dX2_take_73 ?_
      refine x_putJ C g_X2_38 rfl (by first | assumption | exact Nat.one_pos) dX2_take_76 ?_
      refine x_goto C 92 dX2_take_79 (by decide) ?_
      exact x_vret C (⟨rfl, rfl, rfl, by simp [tkF, up3_e], by simp [tkG, q61], rfl⟩) dX2_take_92
    · skip
      have q61 : k = 0 := (nI_eq (by omega) (by omega)).mp (hk.symm.trans (h61.trans nI_0.symm))
      refine x_lload_n C dX2_take_64 rfl ?_
      refine x_goto C 76 dX2_take_65 (by decide) ?_
      refine x_putJ C g_X2_38 rfl (by first | assumption | exact Nat.one_pos) dX2_take_76 ?_
      refine x_goto C 92 dX2_take_79 (by decide) ?_
      exact x_vret C (⟨rfl, rfl, rfl, by simp [tkF, up3_e], by simp [tkG, q61], rfl⟩) dX2_take_92

set_option maxRecDepth 100000 in
set_option maxHeartbeats 4000000 in
theorem c_X2_notePlace (l : Launch) (D : va_G) (dA : Nat → ClassId) (base n : Nat) (ad : Fa) (I : Fi) (J : Fj) (R : Fr) (hT : ST n R) (i k : Nat) (x : Int32) (hi : i < n) (hk : I 7 i 1 = nI k) (hk8 : k < 8) : CT l D dA base yX2_notePlace cX2_notePlace 2 none 0 0 0 [.ref (ad 7 i), .int x] ad (Nn n) I J R (po none ad (Nn n) (up3 (up3 I 8 i k x) 7 i 1 (nI (k + 1))) J R) := by
  refine CT.of 0 (L0 := [some (.ref (ad 7 i)), some (.int x)]) (by decide +kernel) rfl (Nat.le_of_ble_eq_true rfl) ?_
  intro p e s m args below meth c C
  refine x_aload_n C dX2_notePlace_0 rfl ?_
  refine x_getI C f_X2_35 rfl (by first | assumption | exact Nat.one_pos) dX2_notePlace_1 ?_
  refine x_aload_n C dX2_notePlace_4 rfl ?_
  refine x_getF C hT f_X2_9 rfl rfl (by first | assumption | exact Nat.one_pos) dX2_notePlace_5 ?_
  refine x_alen C 8 rfl rfl (by decide) (by first | assumption | exact Nat.one_pos) dX2_notePlace_8 ?_
  refine x_icmp_ge C 32 dX2_notePlace_9 (by decide) (fun h9 => ?_) (fun h9 => ?_)
  · skip
    rw [hk] at h9
    exact absurd h9 (nI_ge (b := 8) hk8 (by decide))
  · skip
    refine x_aload_n C dX2_notePlace_12 rfl ?_
    refine x_getF C hT f_X2_9 rfl rfl (by first | assumption | exact Nat.one_pos) dX2_notePlace_13 ?_
    refine x_aload_n C dX2_notePlace_16 rfl ?_
    refine x_getI C f_X2_35 rfl (by first | assumption | exact Nat.one_pos) dX2_notePlace_17 ?_
    refine x_iload_n C dX2_notePlace_20 rfl ?_
    refine x_iastN C (k) hk rfl rfl (by first | assumption | exact Nat.one_pos) hk8 (by decide) dX2_notePlace_21 ?_
    refine x_aload_n C dX2_notePlace_22 rfl ?_
    refine x_dup C rfl dX2_notePlace_23 ?_
    refine x_getI C f_X2_35 rfl (by first | assumption | exact Nat.one_pos) dX2_notePlace_24 ?_
    refine x_iconst C 1 (by decide) dX2_notePlace_27 ?_
    refine x_iadd C dX2_notePlace_28 ?_
    refine x_putI C g_X2_35 rfl (by first | assumption | exact Nat.one_pos) dX2_notePlace_29 ?_
    exact x_vret C (⟨rfl, rfl, rfl, by (congr 1; rw [up3_c _ _ _ _ _ (by decide), hk]; exact nI_1 k), rfl, rfl⟩) dX2_notePlace_32

set_option maxRecDepth 100000 in
set_option maxHeartbeats 4000000 in
theorem c_X2_result (l : Launch) (D : va_G) (dA : Nat → ClassId) (base n : Nat) (ad : Fa) (I : Fi) (J : Fj) (R : Fr) (hT : ST n R) (i f : Nat) (hi : i < n) (hf : I 4 i 1 = nI f) (hf6 : f < 6) : CT l D dA base yX2_result cX2_result 2 (some .long) 0 0 0 [.ref (ad 7 i), .ref (ad 4 i)] ad (Nn n) I J R (po (some (.long (rsl f (J 7 i 3)))) ad (Nn n) I J R) := by
  refine CT.of 0 (L0 := [some (.ref (ad 7 i)), some (.ref (ad 4 i))]) (by decide +kernel) rfl (Nat.le_of_ble_eq_true rfl) ?_
  intro p e s m args below meth c C
  refine x_aload_n C dX2_result_0 rfl ?_
  refine x_getI C f_X2_45 rfl (by first | assumption | exact Nat.one_pos) dX2_result_1 ?_
  refine x_iconst C 4 (by decide) dX2_result_4 ?_
  refine x_icmp_ne C 17 dX2_result_5 (by decide) (fun h5 => ?_) (fun h5 => ?_)
  · skip
    rw [hf] at h5
    have q5 : ¬ f = 4 := fun z => h5 (by rw [z]; rfl)
    refine x_aload_n C dX2_result_17 rfl ?_
    refine x_getJ C f_X2_38 rfl (by first | assumption | exact Nat.one_pos) dX2_result_18 ?_
    exact x_lret C (po_r (by simp [rsl, q5])) dX2_result_21
  · skip
    rw [hf] at h5
    have q5 : f = 4 := (nI_eq (b := 4) (by omega) (by decide)).mp h5
    refine x_aload_n C dX2_result_8 rfl ?_
    refine x_getJ C f_X2_38 rfl (by first | assumption | exact Nat.one_pos) dX2_result_9 ?_
    refine x_lconst C 1 (by decide) dX2_result_12 ?_
    refine x_land C dX2_result_13 ?_
    refine x_goto C 21 dX2_result_14 (by decide) ?_
    exact x_lret C (po_r (by simp [rsl, q5])) dX2_result_21

def ftr (R : Fr) (J : Fj) (i j r : Nat) : Nat → Option Nat
  | 0 => none
  | f + 1 => match R 5 i (r - (f + 1)) with
    | some y => if bit (J 4 y 4) j = true then some y else ftr R J i j r f
    | none => none
def kref (ad : Fa) (o : Option Nat) : Value := match o with
  | none => .null
  | some y => .ref (ad 4 y)
set_option maxRecDepth 100000 in
set_option maxHeartbeats 4000000 in
theorem c_X0_firstThatReaches (l : Launch) (D : va_G) (dA : Nat → ClassId) (base n : Nat) (ad : Fa) (I : Fi) (J : Fj) (R : Fr) (hT : ST n R) (i j r : Nat) (hi : i < n) (hj : j < n) (hr : I 4 i 3 = nI r) (hr8 : r ≤ 8) (hrow : ∀ k, k < r → ∃ y, R 5 i k = some y ∧ y < n) (hnum : ∀ k, k < n → I 4 k 0 = nI k) : CT l D dA base yX0_firstThatReaches cX0_firstThatReaches 4 (some (.object "KeyGraph$Key")) 1 0 0 [.ref (ad 4 i), .ref (ad 4 j)] ad (Nn n) I J R (po (some (kref ad (ftr R J i j r r))) ad (Nn n) I J R) := by
  refine CT.of 2 (L0 := [some (.ref (ad 4 i)), some (.ref (ad 4 j)), none, none]) (by decide +kernel) rfl (Nat.le_of_ble_eq_true rfl) ?_
  intro p e s m args below meth c C
  have loop : ∀ (f k : Nat), k + f = r → ftr R J i j r r = ftr R J i j r f → GX p l e (rmX 1 0 0) s m args below meth c (MQ below (CQ D dA base (po (some (kref ad (ftr R J i j r r))) ad (Nn n) I J R)) args s 0 0 (fun q => base ≤ q)) D dA base 4 ad (Nn n) I J R 0 0 2 [some (.ref (ad 4 i)), some (.ref (ad 4 j)), some (.int (nI k)), none] [] := by
    intro f
    induction f with
    | zero =>
      intro k hk hq
      refine x_iload_n C dX0_firstThatReaches_2 rfl ?_
      refine x_aload_n C dX0_firstThatReaches_3 rfl ?_
      refine x_getI C f_X0_37 rfl (by first | assumption | exact Nat.one_pos) dX0_firstThatReaches_4 ?_
      refine x_icmp_ge C 36 dX0_firstThatReaches_7 (by decide) (fun h7 => ?_) (fun h7 => ?_)
      · skip
        refine x_null C dX0_firstThatReaches_36 ?_
        exact x_aret C (Or.inl ⟨_, rfl⟩) (Or.inl rfl) (po_r (by rw [hq]; rfl)) dX0_firstThatReaches_37
      · skip
        rw [hr] at h7
        exact absurd (nI_le (show r ≤ k by omega) (by omega)) h7
    | succ f ih =>
      intro k hk hq
      obtain ⟨y, hy, hyn⟩ := hrow k (by omega)
      refine x_iload_n C dX0_firstThatReaches_2 rfl ?_
      refine x_aload_n C dX0_firstThatReaches_3 rfl ?_
      refine x_getI C f_X0_37 rfl (by first | assumption | exact Nat.one_pos) dX0_firstThatReaches_4 ?_
      refine x_icmp_ge C 36 dX0_firstThatReaches_7 (by decide) (fun h7 => ?_) (fun h7 => ?_)
      · skip
        rw [hr] at h7
        exact absurd h7 (nI_ge (show k < r by omega) (by omega))
      · skip
        refine x_aload_n C dX0_firstThatReaches_10 rfl ?_
        refine x_iload_n C dX0_firstThatReaches_11 rfl ?_
        refine x_cV1 C yo_X0_rowKey m_X0_40 rfl rfl (by first | assumption | exact Nat.one_pos) (c_X0_rowKey_in l D dA base n ad I J R hT i k r y hi hr (by omega) hr8 hy) dX0_firstThatReaches_12 rfl rfl (Nat.le_of_ble_eq_true rfl) ⟨by decide, by decide⟩ ⟨by decide, by decide⟩ ?_
        refine x_astore_n C dX0_firstThatReaches_15 (by decide) rfl rfl ?_
        refine x_aload_n C dX0_firstThatReaches_16 rfl ?_
        refine x_ifnull C dX0_firstThatReaches_17 ?_
        refine x_aload_n C dX0_firstThatReaches_20 rfl ?_
        refine x_aload_n C dX0_firstThatReaches_21 rfl ?_
        refine x_cV1 C yo_X0_reaches m_X0_44 rfl rfl (by first | assumption | exact Nat.one_pos) (c_X0_reaches l D dA base n ad I J R hT y j hyn hj (hnum j hj)) dX0_firstThatReaches_22 rfl rfl (Nat.le_of_ble_eq_true rfl) ⟨by decide, by decide⟩ ⟨by decide, by decide⟩ ?_
        refine x_if_eq C 30 dX0_firstThatReaches_25 (by decide) (fun h25 => ?_) (fun h25 => ?_)
        · skip
          have q : ¬ bit (J 4 y 4) j = true := fun z => by rw [if_pos z] at h25; exact absurd h25 (by decide)
          refine x_iinc C _ dX0_firstThatReaches_30 rfl rfl (by decide) rfl rfl ?_
          refine x_goto C 2 dX0_firstThatReaches_33 (by decide) ?_
          refine x_drop 3 rfl ?_
          exact x_eqL (ih (k + 1) (by omega) (hq.trans (by simp only [ftr, show r - (f + 1) = k by omega, hy, if_neg q]))) rfl (by rw [← nI_1]; rfl) rfl rfl rfl rfl
        · skip
          have q : bit (J 4 y 4) j = true := Decidable.of_not_not (fun z => h25 (by rw [if_neg z]))
          refine x_aload_n C dX0_firstThatReaches_28 rfl ?_
          exact x_aret C (Or.inl ⟨_, rfl⟩) (Or.inr ⟨_, rfl⟩) (po_r (by rw [hq]; simp only [ftr, show r - (f + 1) = k by omega, hy, if_pos q]; rfl)) dX0_firstThatReaches_29
  refine x_iconst C 0 (by decide) dX0_firstThatReaches_0 ?_
  refine x_istore_n C dX0_firstThatReaches_1 (by decide) rfl rfl ?_
  exact loop r 0 (by omega) rfl

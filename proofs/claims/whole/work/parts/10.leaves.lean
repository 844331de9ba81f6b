/-! leaves of the class: Key, Work -/
theorem ite_t {c : Prop} [Decidable c] {a b : Int32} (h : c) : (if c then a else b) = a := if_pos h
theorem ite_f {c : Prop} [Decidable c] {a b : Int32} (h : ¬ c) : (if c then a else b) = b := if_neg h
set_option maxRecDepth 100000 in
set_option maxHeartbeats 4000000 in
theorem c_X0_isLeaf (l : Launch) (D : va_G) (dA : Nat → ClassId) (base n : Nat) (ad : Fa) (I : Fi) (J : Fj) (R : Fr) (hT : ST n R) (i : Nat) (hi : i < n) : CT l D dA base yX0_isLeaf cX0_isLeaf 1 (some .boolean) 0 0 0 [.ref (ad 4 i)] ad (Nn n) I J R (po (some (.int (if I 4 i 1 = -1 then 1 else 0))) ad (Nn n) I J R) := by
  refine CT.of 0 (L0 := [some (.ref (ad 4 i))]) (by decide +kernel) rfl (Nat.le_of_ble_eq_true rfl) ?_
  intro p e s m args below meth c C
  refine x_aload_n C dX0_isLeaf_0 rfl ?_
  refine x_getI C f_X0_30 rfl (by first | assumption | exact Nat.one_pos) dX0_isLeaf_1 ?_
  refine x_iconst C (-1) (by decide) dX0_isLeaf_4 ?_
  refine x_icmp_ne C 12 dX0_isLeaf_5 (by decide) (fun h5 => ?_) (fun h5 => ?_)
  · skip
    refine x_iconst C 0 (by decide) dX0_isLeaf_12 ?_
    exact x_zret C (by first | exact Or.inl rfl | exact Or.inr rfl | assumption) (po_r (by simp_all)) dX0_isLeaf_13
  · skip
    refine x_iconst C 1 (by decide) dX0_isLeaf_8 ?_
    refine x_goto C 13 dX0_isLeaf_9 (by decide) ?_
    exact x_zret C (by first | exact Or.inl rfl | exact Or.inr rfl | assumption) (po_r (by simp_all)) dX0_isLeaf_13

set_option maxRecDepth 100000 in
set_option maxHeartbeats 4000000 in
theorem c_X2_startWorking (l : Launch) (D : va_G) (dA : Nat → ClassId) (base n : Nat) (ad : Fa) (I : Fi) (J : Fj) (R : Fr) (hT : ST n R) (i : Nat) (hi : i < n) : CT l D dA base yX2_startWorking cX2_startWorking 2 none 0 0 0 [.ref (ad 7 i), .ref (ad 4 i)] ad (Nn n) I J R (po none ad (Nn n) (up3 (up3 (up3 I 7 i 0 0) 7 i 1 0) 7 i 4 (if ¬ I 4 i 5 = 0 ∨ (I 4 i 1 = 5 ∧ I 4 i 3 = 0) then 1 else 0)) (up3 J 7 i 3 0) R) := by
  refine CT.of 0 (L0 := [some (.ref (ad 7 i)), some (.ref (ad 4 i))]) (by decide +kernel) rfl (Nat.le_of_ble_eq_true rfl) ?_
  intro p e s m args below meth c C
  refine x_aload_n C dX2_startWorking_0 rfl ?_
  refine x_iconst C 0 (by decide) dX2_startWorking_1 ?_
  refine x_putZ C g_X2_32 rfl (by first | assumption | exact Nat.one_pos) (by first | exact Or.inl rfl | exact Or.inr rfl | assumption) dX2_startWorking_2 ?_
  refine x_aload_n C dX2_startWorking_5 rfl ?_
  refine x_iconst C 0 (by decide) dX2_startWorking_6 ?_
  refine x_putI C g_X2_35 rfl (by first | assumption | exact Nat.one_pos) dX2_startWorking_7 ?_
  refine x_aload_n C dX2_startWorking_10 rfl ?_
  refine x_lconst C 0 (by decide) dX2_startWorking_11 ?_
  refine x_putJ C g_X2_38 rfl (by first | assumption | exact Nat.one_pos) dX2_startWorking_12 ?_
  refine x_aload_n C dX2_startWorking_15 rfl ?_
  refine x_aload_n C dX2_startWorking_16 rfl ?_
  refine x_getI C f_X2_42 rfl (by first | assumption | exact Nat.one_pos) dX2_startWorking_17 ?_
  refine x_if_ne C 38 dX2_startWorking_20 (by decide) (fun h20 => ?_) (fun h20 => ?_)
  · skip
    refine x_iconst C 1 (by decide) dX2_startWorking_38 ?_
    refine x_goto C 43 dX2_startWorking_39 (by decide) ?_
    refine x_putZ C g_X2_51 rfl (by first | assumption | exact Nat.one_pos) (by first | exact Or.inl rfl | exact Or.inr rfl | assumption) dX2_startWorking_43 ?_
    exact x_vret C (⟨rfl, rfl, rfl, by (congr 1; simp_all [up3]), rfl, rfl⟩) dX2_startWorking_46
  · skip
    refine x_aload_n C dX2_startWorking_23 rfl ?_
    refine x_getI C f_X2_45 rfl (by first | assumption | exact Nat.one_pos) dX2_startWorking_24 ?_
    refine x_iconst C 5 (by decide) dX2_startWorking_27 ?_
    refine x_icmp_ne C 42 dX2_startWorking_28 (by decide) (fun h28 => ?_) (fun h28 => ?_)
    · skip
      refine x_iconst C 0 (by decide) dX2_startWorking_42 ?_
      refine x_putZ C g_X2_51 rfl (by first | assumption | exact Nat.one_pos) (by first | exact Or.inl rfl | exact Or.inr rfl | assumption) dX2_startWorking_43 ?_
      exact x_vret C (⟨rfl, rfl, rfl, by (congr 1; simp_all [up3]), rfl, rfl⟩) dX2_startWorking_46
    · skip
      refine x_aload_n C dX2_startWorking_31 rfl ?_
      refine x_getI C f_X2_48 rfl (by first | assumption | exact Nat.one_pos) dX2_startWorking_32 ?_
      refine x_if_ne C 42 dX2_startWorking_35 (by decide) (fun h35 => ?_) (fun h35 => ?_)
      · skip
        refine x_iconst C 0 (by decide) dX2_startWorking_42 ?_
        refine x_putZ C g_X2_51 rfl (by first | assumption | exact Nat.one_pos) (by first | exact Or.inl rfl | exact Or.inr rfl | assumption) dX2_startWorking_43 ?_
        exact x_vret C (⟨rfl, rfl, rfl, by (congr 1; simp_all [up3]), rfl, rfl⟩) dX2_startWorking_46
      · skip
        refine x_iconst C 1 (by decide) dX2_startWorking_38 ?_
        refine x_goto C 43 dX2_startWorking_39 (by decide) ?_
        refine x_putZ C g_X2_51 rfl (by first | assumption | exact Nat.one_pos) (by first | exact Or.inl rfl | exact Or.inr rfl | assumption) dX2_startWorking_43 ?_
        exact x_vret C (⟨rfl, rfl, rfl, by (congr 1; simp_all [up3]), rfl, rfl⟩) dX2_startWorking_46

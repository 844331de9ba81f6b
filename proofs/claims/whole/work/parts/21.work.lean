/-! the reference: a work's numbers -/
/-- what the entry e0 of the key k has taken: a places and their keys -/
def TKX (I : Fi) (e0 k a : Nat) (pls ys : Nat → Nat) : Prop := ∀ i, i < a → I 40 0 (8 * e0 + i) = nI (pls i) ∧ pls i < 8 ∧ I 25 0 (8 * k + pls i) = nI (ys i) ∧ ys i < 40
def rmd (v : Int64) (q : Nat) : Int32 := if (v - v / lN q * lN q).toInt32 < 0 then (v - v / lN q * lN q).toInt32 + nI q else (v - v / lN q * lN q).toInt32
def cms (sp : Int32) (f a r : Nat) (tv : Nat → Int64) : Int32 := if ¬ sp = 0 ∨ (f = 5 ∧ r = 0) then -2 else if f = 1 ∧ 0 < a ∧ ¬ tv (a - 1) = 0 then -1 else if f = 3 ∧ 1 < a ∧ tv (a - 1) = 0 then -2 else if ¬ f = 2 ∨ a = 0 then (if a < r then nI a else -1) else if a = 1 ∧ 1 < r then 1 + rmd (tv 0) (r - 1) else -1
def ost (f : Nat) (v x : Int64) : Int64 := if f = 0 ∨ f = 4 then v + x else if f = 3 then (if x = -1 then -v else v / x) else if f = 5 then (if v < x then x else v) else v
def oub (f : Nat) (tv : Nat → Int64) (v : Int64) : Nat → Int64
  | 0 => v
  | t + 1 => ost f (oub f tv v t) (tv (t + 1))
def oc0 (f a : Nat) (tv : Nat → Int64) : Int64 := if a = 0 then 0 else if f = 1 ∨ f = 2 then tv (a - 1) else tv 0
def ocm (f a : Nat) (tv : Nat → Int64) : Int64 := rsl f (oub f tv (oc0 f a tv) (a - 1))
set_option maxRecDepth 100000 in
set_option maxHeartbeats 4000000 in
theorem c_X4_taken (l : Launch) (D : va_G) (dA : Nat → ClassId) (base n : Nat) (ad : Fa) (I : Fi) (J : Fj) (R : Fr) (hT : ST n R) (e0 i : Nat) (k a : Nat) (pls ys : Nat → Nat) (he : e0 < 200) (hk : k < 40) (hon : I 38 0 e0 = nI k) (ht : TKX I e0 k a pls ys) (hi : i < a) (hi8 : i < 8) : CT l D dA base yX4_taken cX4_taken 3 (some .long) 1 0 0 [.ref (ad 11 0), .int (nI e0), .int (nI i)] ad (Nn n) I J R (po (some (.long (J 34 0 (ys i)))) ad (Nn n) I J R) := by
  refine CT.of 0 (L0 := [some (.ref (ad 11 0)), some (.int (nI e0)), some (.int (nI i))]) (by decide +kernel) rfl (Nat.le_of_ble_eq_true rfl) ?_
  intro p e s m args below meth c C
  obtain ⟨t1, t2, t3, t4⟩ := ht i hi
  refine x_aload_n C dX4_taken_0 rfl ?_
  refine x_getF C hT f_X4_43 rfl rfl (by first | assumption | exact Nat.one_pos) dX4_taken_1 ?_
  refine x_aload_n C dX4_taken_4 rfl ?_
  refine x_aload_n C dX4_taken_5 rfl ?_
  refine x_getF C hT f_X4_57 rfl rfl (by first | assumption | exact Nat.one_pos) dX4_taken_6 ?_
  refine x_iload_n C dX4_taken_9 rfl ?_
  refine x_ialdN C (e0) rfl rfl rfl (by first | assumption | exact Nat.one_pos) he (by decide) dX4_taken_10 ?_
  rw [hon]
  refine x_aload_n C dX4_taken_11 rfl ?_
  refine x_getF C hT f_X4_63 rfl rfl (by first | assumption | exact Nat.one_pos) dX4_taken_12 ?_
  refine x_bipush C 8 (by decide) dX4_taken_15 ?_
  refine x_iload_n C dX4_taken_17 rfl ?_
  refine x_imul C dX4_taken_18 ?_
  refine x_iload_n C dX4_taken_19 rfl ?_
  refine x_iadd C dX4_taken_20 ?_
  refine x_ialdN C (8 * e0 + i) (ix8 e0 i) rfl rfl (by first | assumption | exact Nat.one_pos) (by omega) (by decide) dX4_taken_21 ?_
  rw [t1]
  refine x_cV1 C yo_X4_rowKey m_X4_97 rfl rfl (by first | assumption | exact Nat.one_pos) (c_X4_rowKey l D dA base n ad I J R hT k (pls i) hk t2) dX4_taken_22 rfl rfl (Nat.le_of_ble_eq_true rfl) ⟨by decide, by decide⟩ ⟨by decide, by decide⟩ ?_
  refine x_laldN C (ys i) t3 rfl rfl (by first | assumption | exact Nat.one_pos) t4 (by decide) dX4_taken_25 ?_
  exact x_lret C (po_i _ _ _ _ _ _) dX4_taken_26

set_option maxRecDepth 100000 in
set_option maxHeartbeats 4000000 in
theorem c_X4_remainder (l : Launch) (D : va_G) (dA : Nat → ClassId) (base n : Nat) (ad : Fa) (I : Fi) (J : Fj) (R : Fr) (v : Int64) (q : Nat) (hq : q < 8) (hq0 : 0 < q) : CT l D dA base yX4_remainder cX4_remainder 4 (some .int) 0 0 0 [.long v, .int (nI q)] ad (Nn n) I J R (po (some (.int (rmd v q))) ad (Nn n) I J R) := by
  refine CT.of 1 (L0 := [some (.long v), none, some (.int (nI q)), none]) (by decide +kernel) rfl (Nat.le_of_ble_eq_true rfl) ?_
  intro p e s m args below meth c C
  refine x_lload_n C dX4_remainder_0 rfl ?_
  refine x_iload_n C dX4_remainder_1 rfl ?_
  refine x_i2l C dX4_remainder_2 ?_
  rw [nI_l (show q < 2 ^ 31 by omega)]
  refine x_lrem C (fun z => absurd ((lN_eq (b := 0) (by omega) (by decide)).mp z) (by omega)) dX4_remainder_3 ?_
  refine x_l2i C dX4_remainder_4 ?_
  refine x_istore_n C dX4_remainder_5 (by decide) rfl rfl ?_
  refine x_iload_n C dX4_remainder_6 rfl ?_
  refine x_if_ge C 16 dX4_remainder_7 (by decide) (fun h7 => ?_) (fun h7 => ?_)
  · skip
    refine x_iload_n C dX4_remainder_16 rfl ?_
    exact x_iret C (po_r (by unfold rmd; rw [if_neg (Int32.not_lt.mpr h7)])) dX4_remainder_17
  · skip
    refine x_iload_n C dX4_remainder_10 rfl ?_
    refine x_iload_n C dX4_remainder_11 rfl ?_
    refine x_iadd C dX4_remainder_12 ?_
    refine x_goto C 17 dX4_remainder_13 (by decide) ?_
    exact x_iret C (po_r (by unfold rmd; rw [if_pos (Int32.not_le.mp h7)])) dX4_remainder_17

set_option maxRecDepth 100000 in
set_option maxHeartbeats 4000000 in
theorem c_X4_comes (l : Launch) (D : va_G) (dA : Nat → ClassId) (base n : Nat) (ad : Fa) (I : Fi) (J : Fj) (R : Fr) (hT : ST n R) (e0 f r : Nat) (k a : Nat) (pls ys : Nat → Nat) (he : e0 < 200) (hk : k < 40) (hon : I 38 0 e0 = nI k) (ht : TKX I e0 k a pls ys) (hfar : I 39 0 e0 = nI a) (ha8 : a ≤ 8) (hf : I 23 0 k = nI f) (hf6 : f < 6) (hr : I 24 0 k = nI r) (hr8 : r ≤ 8)  : CT l D dA base yX4_comes cX4_comes 5 (some .int) 2 0 0 [.ref (ad 11 0), .int (nI e0)] ad (Nn n) I J R (po (some (.int (cms (I 35 0 k) f a r (fun i => J 34 0 (ys i))))) ad (Nn n) I J R) := by
  refine CT.of 3 (L0 := [some (.ref (ad 11 0)), some (.int (nI e0)), none, none, none]) (by decide +kernel) rfl (Nat.le_of_ble_eq_true rfl) ?_
  intro p e s m args below meth c C
  refine x_aload_n C dX4_comes_0 rfl ?_
  refine x_getF C hT f_X4_57 rfl rfl (by first | assumption | exact Nat.one_pos) dX4_comes_1 ?_
  refine x_iload_n C dX4_comes_4 rfl ?_
  refine x_ialdN C (e0) rfl rfl rfl (by first | assumption | exact Nat.one_pos) he (by decide) dX4_comes_5 ?_
  rw [hon]
  refine x_istore_n C dX4_comes_6 (by decide) rfl rfl ?_
  refine x_aload_n C dX4_comes_7 rfl ?_
  refine x_getF C hT f_X4_60 rfl rfl (by first | assumption | exact Nat.one_pos) dX4_comes_8 ?_
  refine x_iload_n C dX4_comes_11 rfl ?_
  refine x_ialdN C (e0) rfl rfl rfl (by first | assumption | exact Nat.one_pos) he (by decide) dX4_comes_12 ?_
  rw [hfar]
  refine x_istore_n C dX4_comes_13 (by decide) rfl rfl ?_
  refine x_aload_n C dX4_comes_14 rfl ?_
  refine x_getF C hT f_X4_13 rfl rfl (by first | assumption | exact Nat.one_pos) dX4_comes_15 ?_
  refine x_iload_n C dX4_comes_18 rfl ?_
  refine x_ialdN C (k) rfl rfl rfl (by first | assumption | exact Nat.one_pos) hk (by decide) dX4_comes_19 ?_
  rw [hr]
  refine x_istore C dX4_comes_20 (by decide) rfl rfl ?_
  rcases (show f = 0 ∨ f = 1 ∨ f = 2 ∨ f = 3 ∨ f = 4 ∨ f = 5 by omega) with rfl | rfl | rfl | rfl | rfl | rfl
  · skip
    refine x_aload_n C dX4_comes_22 rfl ?_
    refine x_getF C hT f_X4_47 rfl rfl (by first | assumption | exact Nat.one_pos) dX4_comes_23 ?_
    refine x_iload_n C dX4_comes_26 rfl ?_
    refine x_zaldN C (k) rfl rfl rfl (by first | assumption | exact Nat.one_pos) hk (by decide) dX4_comes_27 ?_
    refine x_if_ne C 46 dX4_comes_28 (by decide) (fun h28 => ?_) (fun h28 => ?_)
    · skip
      refine x_bipush C (-2) (by decide) dX4_comes_46 ?_
      exact x_iret C (po_r (by unfold cms; rw [if_pos (Or.inl h28)])) dX4_comes_48
    · skip
      refine x_aload_n C dX4_comes_31 rfl ?_
      refine x_getF C hT f_X4_7 rfl rfl (by first | assumption | exact Nat.one_pos) dX4_comes_32 ?_
      refine x_iload_n C dX4_comes_35 rfl ?_
      refine x_ialdN C (k) rfl rfl rfl (by first | assumption | exact Nat.one_pos) hk (by decide) dX4_comes_36 ?_
      refine x_iconst C 5 (by decide) dX4_comes_37 ?_
      refine x_icmp_ne C 49 dX4_comes_38 (by decide) (fun h38 => ?_) (fun h38 => ?_)
      · skip
        refine x_aload_n C dX4_comes_49 rfl ?_
        refine x_getF C hT f_X4_7 rfl rfl (by first | assumption | exact Nat.one_pos) dX4_comes_50 ?_
        refine x_iload_n C dX4_comes_53 rfl ?_
        refine x_ialdN C (k) rfl rfl rfl (by first | assumption | exact Nat.one_pos) hk (by decide) dX4_comes_54 ?_
        refine x_iconst C 1 (by decide) dX4_comes_55 ?_
        refine x_icmp_ne C 78 dX4_comes_56 (by decide) (fun h56 => ?_) (fun h56 => ?_)
        · skip
          refine x_aload_n C dX4_comes_78 rfl ?_
          refine x_getF C hT f_X4_7 rfl rfl (by first | assumption | exact Nat.one_pos) dX4_comes_79 ?_
          refine x_iload_n C dX4_comes_82 rfl ?_
          refine x_ialdN C (k) rfl rfl rfl (by first | assumption | exact Nat.one_pos) hk (by decide) dX4_comes_83 ?_
          refine x_iconst C 3 (by decide) dX4_comes_84 ?_
          refine x_icmp_ne C 109 dX4_comes_85 (by decide) (fun h85 => ?_) (fun h85 => ?_)
          · skip
            refine x_aload_n C dX4_comes_109 rfl ?_
            refine x_getF C hT f_X4_7 rfl rfl (by first | assumption | exact Nat.one_pos) dX4_comes_110 ?_
            refine x_iload_n C dX4_comes_113 rfl ?_
            refine x_ialdN C (k) rfl rfl rfl (by first | assumption | exact Nat.one_pos) hk (by decide) dX4_comes_114 ?_
            refine x_iconst C 2 (by decide) dX4_comes_115 ?_
            refine x_icmp_ne C 123 dX4_comes_116 (by decide) (fun h116 => ?_) (fun h116 => ?_)
            · skip
              refine x_iload_n C dX4_comes_123 rfl ?_
              refine x_iload C dX4_comes_124 rfl ?_
              refine x_icmp_ge C 133 dX4_comes_126 (by decide) (fun h126 => ?_) (fun h126 => ?_)
              · skip
                have q126 : ¬ a < r := fun z => absurd h126 (nI_ge z (by omega))
                refine x_iconst C (-1) (by decide) dX4_comes_133 ?_
                exact x_iret C (po_r (by unfold cms; rw [if_neg (fun z => z.elim (fun w => w h28) (fun w => absurd w.1 (by decide)))]; rw [if_neg (fun z => absurd z.1 (by decide))]; rw [if_neg (fun z => absurd z.1 (by decide))]; rw [if_pos (Or.inl (by decide))]; rw [if_neg q126])) dX4_comes_134
              · skip
                have q126 : a < r := Nat.not_le.mp (fun z => h126 (nI_le z (by omega)))
                refine x_iload_n C dX4_comes_129 rfl ?_
                refine x_goto C 134 dX4_comes_130 (by decide) ?_
                exact x_iret C (po_r (by unfold cms; rw [if_neg (fun z => z.elim (fun w => w h28) (fun w => absurd w.1 (by decide)))]; rw [if_neg (fun z => absurd z.1 (by decide))]; rw [if_neg (fun z => absurd z.1 (by decide))]; rw [if_pos (Or.inl (by decide))]; rw [if_pos q126])) dX4_comes_134
            · skip
              rw [hf] at h116
              exact absurd h116 (by decide)
          · skip
            rw [hf] at h85
            exact absurd h85 (by decide)
        · skip
          rw [hf] at h56
          exact absurd h56 (by decide)
      · skip
        rw [hf] at h38
        exact absurd h38 (by decide)
  · skip
    refine x_aload_n C dX4_comes_22 rfl ?_
    refine x_getF C hT f_X4_47 rfl rfl (by first | assumption | exact Nat.one_pos) dX4_comes_23 ?_
    refine x_iload_n C dX4_comes_26 rfl ?_
    refine x_zaldN C (k) rfl rfl rfl (by first | assumption | exact Nat.one_pos) hk (by decide) dX4_comes_27 ?_
    refine x_if_ne C 46 dX4_comes_28 (by decide) (fun h28 => ?_) (fun h28 => ?_)
    · skip
      refine x_bipush C (-2) (by decide) dX4_comes_46 ?_
      exact x_iret C (po_r (by unfold cms; rw [if_pos (Or.inl h28)])) dX4_comes_48
    · skip
      refine x_aload_n C dX4_comes_31 rfl ?_
      refine x_getF C hT f_X4_7 rfl rfl (by first | assumption | exact Nat.one_pos) dX4_comes_32 ?_
      refine x_iload_n C dX4_comes_35 rfl ?_
      refine x_ialdN C (k) rfl rfl rfl (by first | assumption | exact Nat.one_pos) hk (by decide) dX4_comes_36 ?_
      refine x_iconst C 5 (by decide) dX4_comes_37 ?_
      refine x_icmp_ne C 49 dX4_comes_38 (by decide) (fun h38 => ?_) (fun h38 => ?_)
      · skip
        refine x_aload_n C dX4_comes_49 rfl ?_
        refine x_getF C hT f_X4_7 rfl rfl (by first | assumption | exact Nat.one_pos) dX4_comes_50 ?_
        refine x_iload_n C dX4_comes_53 rfl ?_
        refine x_ialdN C (k) rfl rfl rfl (by first | assumption | exact Nat.one_pos) hk (by decide) dX4_comes_54 ?_
        refine x_iconst C 1 (by decide) dX4_comes_55 ?_
        refine x_icmp_ne C 78 dX4_comes_56 (by decide) (fun h56 => ?_) (fun h56 => ?_)
        · skip
          rw [hf] at h56
          exact absurd rfl h56
        · skip
          refine x_iload_n C dX4_comes_59 rfl ?_
          refine x_if_le C 78 dX4_comes_60 (by decide) (fun h60 => ?_) (fun h60 => ?_)
          · skip
            have q60 : ¬ 0 < a := fun z => absurd h60 (nI_nle z (by omega))
            refine x_aload_n C dX4_comes_78 rfl ?_
            refine x_getF C hT f_X4_7 rfl rfl (by first | assumption | exact Nat.one_pos) dX4_comes_79 ?_
            refine x_iload_n C dX4_comes_82 rfl ?_
            refine x_ialdN C (k) rfl rfl rfl (by first | assumption | exact Nat.one_pos) hk (by decide) dX4_comes_83 ?_
            refine x_iconst C 3 (by decide) dX4_comes_84 ?_
            refine x_icmp_ne C 109 dX4_comes_85 (by decide) (fun h85 => ?_) (fun h85 => ?_)
            · skip
              refine x_aload_n C dX4_comes_109 rfl ?_
              refine x_getF C hT f_X4_7 rfl rfl (by first | assumption | exact Nat.one_pos) dX4_comes_110 ?_
              refine x_iload_n C dX4_comes_113 rfl ?_
              refine x_ialdN C (k) rfl rfl rfl (by first | assumption | exact Nat.one_pos) hk (by decide) dX4_comes_114 ?_
              refine x_iconst C 2 (by decide) dX4_comes_115 ?_
              refine x_icmp_ne C 123 dX4_comes_116 (by decide) (fun h116 => ?_) (fun h116 => ?_)
              · skip
                refine x_iload_n C dX4_comes_123 rfl ?_
                refine x_iload C dX4_comes_124 rfl ?_
                refine x_icmp_ge C 133 dX4_comes_126 (by decide) (fun h126 => ?_) (fun h126 => ?_)
                · skip
                  have q126 : ¬ a < r := fun z => absurd h126 (nI_ge z (by omega))
                  refine x_iconst C (-1) (by decide) dX4_comes_133 ?_
                  exact x_iret C (po_r (by unfold cms; rw [if_neg (fun z => z.elim (fun w => w h28) (fun w => absurd w.1 (by decide)))]; rw [if_neg (fun z => absurd z.2.1 q60)]; rw [if_neg (fun z => absurd z.1 (by decide))]; rw [if_pos (Or.inl (by decide))]; rw [if_neg q126])) dX4_comes_134
                · skip
                  have q126 : a < r := Nat.not_le.mp (fun z => h126 (nI_le z (by omega)))
                  refine x_iload_n C dX4_comes_129 rfl ?_
                  refine x_goto C 134 dX4_comes_130 (by decide) ?_
                  exact x_iret C (po_r (by unfold cms; rw [if_neg (fun z => z.elim (fun w => w h28) (fun w => absurd w.1 (by decide)))]; rw [if_neg (fun z => absurd z.2.1 q60)]; rw [if_neg (fun z => absurd z.1 (by decide))]; rw [if_pos (Or.inl (by decide))]; rw [if_pos q126])) dX4_comes_134
              · skip
                rw [hf] at h116
                exact absurd h116 (by decide)
            · skip
              rw [hf] at h85
              exact absurd h85 (by decide)
          · skip
            have q60 : 0 < a := (Nat.eq_zero_or_pos a).elim (fun z => absurd (by rw [z]; decide) h60) id
            refine x_aload_n C dX4_comes_63 rfl ?_
            refine x_iload_n C dX4_comes_64 rfl ?_
            refine x_iload_n C dX4_comes_65 rfl ?_
            refine x_iconst C 1 (by decide) dX4_comes_66 ?_
            refine x_isub C dX4_comes_67 ?_
            rw [nI_m1 q60]
            refine x_cV1 C yo_X4_taken m_X4_130 rfl rfl (by first | assumption | exact Nat.one_pos) (c_X4_taken l D dA base n ad I J R hT e0 (a - 1) k a pls ys he hk hon ht (by omega) (by omega)) dX4_comes_68 rfl rfl (Nat.le_of_ble_eq_true rfl) ⟨by decide, by decide⟩ ⟨by decide, by decide⟩ ?_
            refine x_lconst C 0 (by decide) dX4_comes_71 ?_
            refine x_lcmp C dX4_comes_72 ?_
            refine x_if_eq C 78 dX4_comes_73 (by decide) (fun h73 => ?_) (fun h73 => ?_)
            · skip
              rw [lg_cmp_eq] at h73
              refine x_aload_n C dX4_comes_78 rfl ?_
              refine x_getF C hT f_X4_7 rfl rfl (by first | assumption | exact Nat.one_pos) dX4_comes_79 ?_
              refine x_iload_n C dX4_comes_82 rfl ?_
              refine x_ialdN C (k) rfl rfl rfl (by first | assumption | exact Nat.one_pos) hk (by decide) dX4_comes_83 ?_
              refine x_iconst C 3 (by decide) dX4_comes_84 ?_
              refine x_icmp_ne C 109 dX4_comes_85 (by decide) (fun h85 => ?_) (fun h85 => ?_)
              · skip
                refine x_aload_n C dX4_comes_109 rfl ?_
                refine x_getF C hT f_X4_7 rfl rfl (by first | assumption | exact Nat.one_pos) dX4_comes_110 ?_
                refine x_iload_n C dX4_comes_113 rfl ?_
                refine x_ialdN C (k) rfl rfl rfl (by first | assumption | exact Nat.one_pos) hk (by decide) dX4_comes_114 ?_
                refine x_iconst C 2 (by decide) dX4_comes_115 ?_
                refine x_icmp_ne C 123 dX4_comes_116 (by decide) (fun h116 => ?_) (fun h116 => ?_)
                · skip
                  refine x_iload_n C dX4_comes_123 rfl ?_
                  refine x_iload C dX4_comes_124 rfl ?_
                  refine x_icmp_ge C 133 dX4_comes_126 (by decide) (fun h126 => ?_) (fun h126 => ?_)
                  · skip
                    have q126 : ¬ a < r := fun z => absurd h126 (nI_ge z (by omega))
                    refine x_iconst C (-1) (by decide) dX4_comes_133 ?_
                    exact x_iret C (po_r (by unfold cms; rw [if_neg (fun z => z.elim (fun w => w h28) (fun w => absurd w.1 (by decide)))]; rw [if_neg (fun z => z.2.2 h73)]; rw [if_neg (fun z => absurd z.1 (by decide))]; rw [if_pos (Or.inl (by decide))]; rw [if_neg q126])) dX4_comes_134
                  · skip
                    have q126 : a < r := Nat.not_le.mp (fun z => h126 (nI_le z (by omega)))
                    refine x_iload_n C dX4_comes_129 rfl ?_
                    refine x_goto C 134 dX4_comes_130 (by decide) ?_
                    exact x_iret C (po_r (by unfold cms; rw [if_neg (fun z => z.elim (fun w => w h28) (fun w => absurd w.1 (by decide)))]; rw [if_neg (fun z => z.2.2 h73)]; rw [if_neg (fun z => absurd z.1 (by decide))]; rw [if_pos (Or.inl (by decide))]; rw [if_pos q126])) dX4_comes_134
                · skip
                  rw [hf] at h116
                  exact absurd h116 (by decide)
              · skip
                rw [hf] at h85
                exact absurd h85 (by decide)
            · skip
              rw [lg_cmp_eq] at h73
              refine x_iconst C (-1) (by decide) dX4_comes_76 ?_
              exact x_iret C (po_r (by unfold cms; rw [if_neg (fun z => z.elim (fun w => w h28) (fun w => absurd w.1 (by decide)))]; rw [if_pos ⟨rfl, q60, h73⟩])) dX4_comes_77
      · skip
        rw [hf] at h38
        exact absurd h38 (by decide)
  · skip
    refine x_aload_n C dX4_comes_22 rfl ?_
    refine x_getF C hT f_X4_47 rfl rfl (by first | assumption | exact Nat.one_pos) dX4_comes_23 ?_
    refine x_iload_n C dX4_comes_26 rfl ?_
    refine x_zaldN C (k) rfl rfl rfl (by first | assumption | exact Nat.one_pos) hk (by decide) dX4_comes_27 ?_
    refine x_if_ne C 46 dX4_comes_28 (by decide) (fun h28 => ?_) (fun h28 => ?_)
    · skip
      refine x_bipush C (-2) (by decide) dX4_comes_46 ?_
      exact x_iret C (po_r (by unfold cms; rw [if_pos (Or.inl h28)])) dX4_comes_48
    · skip
      refine x_aload_n C dX4_comes_31 rfl ?_
      refine x_getF C hT f_X4_7 rfl rfl (by first | assumption | exact Nat.one_pos) dX4_comes_32 ?_
      refine x_iload_n C dX4_comes_35 rfl ?_
      refine x_ialdN C (k) rfl rfl rfl (by first | assumption | exact Nat.one_pos) hk (by decide) dX4_comes_36 ?_
      refine x_iconst C 5 (by decide) dX4_comes_37 ?_
      refine x_icmp_ne C 49 dX4_comes_38 (by decide) (fun h38 => ?_) (fun h38 => ?_)
      · skip
        refine x_aload_n C dX4_comes_49 rfl ?_
        refine x_getF C hT f_X4_7 rfl rfl (by first | assumption | exact Nat.one_pos) dX4_comes_50 ?_
        refine x_iload_n C dX4_comes_53 rfl ?_
        refine x_ialdN C (k) rfl rfl rfl (by first | assumption | exact Nat.one_pos) hk (by decide) dX4_comes_54 ?_
        refine x_iconst C 1 (by decide) dX4_comes_55 ?_
        refine x_icmp_ne C 78 dX4_comes_56 (by decide) (fun h56 => ?_) (fun h56 => ?_)
        · skip
          refine x_aload_n C dX4_comes_78 rfl ?_
          refine x_getF C hT f_X4_7 rfl rfl (by first | assumption | exact Nat.one_pos) dX4_comes_79 ?_
          refine x_iload_n C dX4_comes_82 rfl ?_
          refine x_ialdN C (k) rfl rfl rfl (by first | assumption | exact Nat.one_pos) hk (by decide) dX4_comes_83 ?_
          refine x_iconst C 3 (by decide) dX4_comes_84 ?_
          refine x_icmp_ne C 109 dX4_comes_85 (by decide) (fun h85 => ?_) (fun h85 => ?_)
          · skip
            refine x_aload_n C dX4_comes_109 rfl ?_
            refine x_getF C hT f_X4_7 rfl rfl (by first | assumption | exact Nat.one_pos) dX4_comes_110 ?_
            refine x_iload_n C dX4_comes_113 rfl ?_
            refine x_ialdN C (k) rfl rfl rfl (by first | assumption | exact Nat.one_pos) hk (by decide) dX4_comes_114 ?_
            refine x_iconst C 2 (by decide) dX4_comes_115 ?_
            refine x_icmp_ne C 123 dX4_comes_116 (by decide) (fun h116 => ?_) (fun h116 => ?_)
            · skip
              rw [hf] at h116
              exact absurd rfl h116
            · skip
              refine x_iload_n C dX4_comes_119 rfl ?_
              refine x_if_ne C 135 dX4_comes_120 (by decide) (fun h120 => ?_) (fun h120 => ?_)
              · skip
                have q120 : ¬ a = 0 := fun z => h120 (by rw [z]; rfl)
                refine x_iload_n C dX4_comes_135 rfl ?_
                refine x_iconst C 1 (by decide) dX4_comes_136 ?_
                refine x_icmp_ne C 164 dX4_comes_137 (by decide) (fun h137 => ?_) (fun h137 => ?_)
                · skip
                  have q137 : ¬ a = 1 := fun z => h137 (by rw [z]; rfl)
                  refine x_iconst C (-1) (by decide) dX4_comes_164 ?_
                  exact x_iret C (po_r (by unfold cms; rw [if_neg (fun z => z.elim (fun w => w h28) (fun w => absurd w.1 (by decide)))]; rw [if_neg (fun z => absurd z.1 (by decide))]; rw [if_neg (fun z => absurd z.1 (by decide))]; rw [if_neg (fun z => z.elim (fun w => w rfl) q120)]; rw [if_neg (fun z => q137 z.1)])) dX4_comes_165
                · skip
                  have q137 : a = 1 := (nI_eq (b := 1) (by omega) (by decide)).mp h137
                  refine x_iload C dX4_comes_140 rfl ?_
                  refine x_iconst C 1 (by decide) dX4_comes_142 ?_
                  refine x_icmp_le C 164 dX4_comes_143 (by decide) (fun h143 => ?_) (fun h143 => ?_)
                  · skip
                    have q143 : ¬ 1 < r := fun z => absurd h143 (nI_ge (a := 1) z (by omega))
                    refine x_iconst C (-1) (by decide) dX4_comes_164 ?_
                    exact x_iret C (po_r (by unfold cms; rw [if_neg (fun z => z.elim (fun w => w h28) (fun w => absurd w.1 (by decide)))]; rw [if_neg (fun z => absurd z.1 (by decide))]; rw [if_neg (fun z => absurd z.1 (by decide))]; rw [if_neg (fun z => z.elim (fun w => w rfl) q120)]; rw [if_neg (fun z => q143 z.2)])) dX4_comes_165
                  · skip
                    have q143 : 1 < r := Nat.not_le.mp (fun z => h143 (nI_le (b := 1) z (by decide)))
                    refine x_iconst C 1 (by decide) dX4_comes_146 ?_
                    refine x_aload_n C dX4_comes_147 rfl ?_
                    refine x_iload_n C dX4_comes_148 rfl ?_
                    refine x_iconst C 0 (by decide) dX4_comes_149 ?_
                    refine x_cV1 C yo_X4_taken m_X4_130 rfl rfl (by first | assumption | exact Nat.one_pos) (c_X4_taken l D dA base n ad I J R hT e0 (0) k a pls ys he hk hon ht (by omega) (by decide)) dX4_comes_150 rfl rfl (Nat.le_of_ble_eq_true rfl) ⟨by decide, by decide⟩ ⟨by decide, by decide⟩ ?_
                    refine x_iload C dX4_comes_153 rfl ?_
                    refine x_iconst C 1 (by decide) dX4_comes_155 ?_
                    refine x_isub C dX4_comes_156 ?_
                    rw [nI_m1 (by omega)]
                    refine x_cS1 C yo_X4_remainder rfl m_X4_134 (c_X4_remainder l D dA base n ad I J R (J 34 0 (ys 0)) (r - 1) (by omega) (by omega)) dX4_comes_157 rfl rfl (Nat.le_of_ble_eq_true rfl) ⟨by decide, by decide⟩ ⟨by decide, by decide⟩ ?_
                    refine x_iadd C dX4_comes_160 ?_
                    refine x_goto C 165 dX4_comes_161 (by decide) ?_
                    exact x_iret C (po_r (by unfold cms; rw [if_neg (fun z => z.elim (fun w => w h28) (fun w => absurd w.1 (by decide)))]; rw [if_neg (fun z => absurd z.1 (by decide))]; rw [if_neg (fun z => absurd z.1 (by decide))]; rw [if_neg (fun z => z.elim (fun w => w rfl) q120)]; rw [if_pos ⟨q137, q143⟩])) dX4_comes_165
              · skip
                have q120 : a = 0 := (nI_eq (b := 0) (by omega) (by decide)).mp h120
                refine x_iload_n C dX4_comes_123 rfl ?_
                refine x_iload C dX4_comes_124 rfl ?_
                refine x_icmp_ge C 133 dX4_comes_126 (by decide) (fun h126 => ?_) (fun h126 => ?_)
                · skip
                  have q126 : ¬ a < r := fun z => absurd h126 (nI_ge z (by omega))
                  refine x_iconst C (-1) (by decide) dX4_comes_133 ?_
                  exact x_iret C (po_r (by unfold cms; rw [if_neg (fun z => z.elim (fun w => w h28) (fun w => absurd w.1 (by decide)))]; rw [if_neg (fun z => absurd z.1 (by decide))]; rw [if_neg (fun z => absurd z.1 (by decide))]; rw [if_pos (Or.inr q120)]; rw [if_neg q126])) dX4_comes_134
                · skip
                  have q126 : a < r := Nat.not_le.mp (fun z => h126 (nI_le z (by omega)))
                  refine x_iload_n C dX4_comes_129 rfl ?_
                  refine x_goto C 134 dX4_comes_130 (by decide) ?_
                  exact x_iret C (po_r (by unfold cms; rw [if_neg (fun z => z.elim (fun w => w h28) (fun w => absurd w.1 (by decide)))]; rw [if_neg (fun z => absurd z.1 (by decide))]; rw [if_neg (fun z => absurd z.1 (by decide))]; rw [if_pos (Or.inr q120)]; rw [if_pos q126])) dX4_comes_134
          · skip
            rw [hf] at h85
            exact absurd h85 (by decide)
        · skip
          rw [hf] at h56
          exact absurd h56 (by decide)
      · skip
        rw [hf] at h38
        exact absurd h38 (by decide)
  · skip
    refine x_aload_n C dX4_comes_22 rfl ?_
    refine x_getF C hT f_X4_47 rfl rfl (by first | assumption | exact Nat.one_pos) dX4_comes_23 ?_
    refine x_iload_n C dX4_comes_26 rfl ?_
    refine x_zaldN C (k) rfl rfl rfl (by first | assumption | exact Nat.one_pos) hk (by decide) dX4_comes_27 ?_
    refine x_if_ne C 46 dX4_comes_28 (by decide) (fun h28 => ?_) (fun h28 => ?_)
    · skip
      refine x_bipush C (-2) (by decide) dX4_comes_46 ?_
      exact x_iret C (po_r (by unfold cms; rw [if_pos (Or.inl h28)])) dX4_comes_48
    · skip
      refine x_aload_n C dX4_comes_31 rfl ?_
      refine x_getF C hT f_X4_7 rfl rfl (by first | assumption | exact Nat.one_pos) dX4_comes_32 ?_
      refine x_iload_n C dX4_comes_35 rfl ?_
      refine x_ialdN C (k) rfl rfl rfl (by first | assumption | exact Nat.one_pos) hk (by decide) dX4_comes_36 ?_
      refine x_iconst C 5 (by decide) dX4_comes_37 ?_
      refine x_icmp_ne C 49 dX4_comes_38 (by decide) (fun h38 => ?_) (fun h38 => ?_)
      · skip
        refine x_aload_n C dX4_comes_49 rfl ?_
        refine x_getF C hT f_X4_7 rfl rfl (by first | assumption | exact Nat.one_pos) dX4_comes_50 ?_
        refine x_iload_n C dX4_comes_53 rfl ?_
        refine x_ialdN C (k) rfl rfl rfl (by first | assumption | exact Nat.one_pos) hk (by decide) dX4_comes_54 ?_
        refine x_iconst C 1 (by decide) dX4_comes_55 ?_
        refine x_icmp_ne C 78 dX4_comes_56 (by decide) (fun h56 => ?_) (fun h56 => ?_)
        · skip
          refine x_aload_n C dX4_comes_78 rfl ?_
          refine x_getF C hT f_X4_7 rfl rfl (by first | assumption | exact Nat.one_pos) dX4_comes_79 ?_
          refine x_iload_n C dX4_comes_82 rfl ?_
          refine x_ialdN C (k) rfl rfl rfl (by first | assumption | exact Nat.one_pos) hk (by decide) dX4_comes_83 ?_
          refine x_iconst C 3 (by decide) dX4_comes_84 ?_
          refine x_icmp_ne C 109 dX4_comes_85 (by decide) (fun h85 => ?_) (fun h85 => ?_)
          · skip
            rw [hf] at h85
            exact absurd rfl h85
          · skip
            refine x_iload_n C dX4_comes_88 rfl ?_
            refine x_iconst C 1 (by decide) dX4_comes_89 ?_
            refine x_icmp_le C 109 dX4_comes_90 (by decide) (fun h90 => ?_) (fun h90 => ?_)
            · skip
              have q90 : ¬ 1 < a := fun z => absurd h90 (nI_ge (a := 1) z (by omega))
              refine x_aload_n C dX4_comes_109 rfl ?_
              refine x_getF C hT f_X4_7 rfl rfl (by first | assumption | exact Nat.one_pos) dX4_comes_110 ?_
              refine x_iload_n C dX4_comes_113 rfl ?_
              refine x_ialdN C (k) rfl rfl rfl (by first | assumption | exact Nat.one_pos) hk (by decide) dX4_comes_114 ?_
              refine x_iconst C 2 (by decide) dX4_comes_115 ?_
              refine x_icmp_ne C 123 dX4_comes_116 (by decide) (fun h116 => ?_) (fun h116 => ?_)
              · skip
                refine x_iload_n C dX4_comes_123 rfl ?_
                refine x_iload C dX4_comes_124 rfl ?_
                refine x_icmp_ge C 133 dX4_comes_126 (by decide) (fun h126 => ?_) (fun h126 => ?_)
                · skip
                  have q126 : ¬ a < r := fun z => absurd h126 (nI_ge z (by omega))
                  refine x_iconst C (-1) (by decide) dX4_comes_133 ?_
                  exact x_iret C (po_r (by unfold cms; rw [if_neg (fun z => z.elim (fun w => w h28) (fun w => absurd w.1 (by decide)))]; rw [if_neg (fun z => absurd z.1 (by decide))]; rw [if_neg (fun z => absurd z.2.1 q90)]; rw [if_pos (Or.inl (by decide))]; rw [if_neg q126])) dX4_comes_134
                · skip
                  have q126 : a < r := Nat.not_le.mp (fun z => h126 (nI_le z (by omega)))
                  refine x_iload_n C dX4_comes_129 rfl ?_
                  refine x_goto C 134 dX4_comes_130 (by decide) ?_
                  exact x_iret C (po_r (by unfold cms; rw [if_neg (fun z => z.elim (fun w => w h28) (fun w => absurd w.1 (by decide)))]; rw [if_neg (fun z => absurd z.1 (by decide))]; rw [if_neg (fun z => absurd z.2.1 q90)]; rw [if_pos (Or.inl (by decide))]; rw [if_pos q126])) dX4_comes_134
              · skip
                rw [hf] at h116
                exact absurd h116 (by decide)
            · skip
              have q90 : 1 < a := Nat.not_le.mp (fun z => h90 (nI_le (b := 1) z (by decide)))
              refine x_aload_n C dX4_comes_93 rfl ?_
              refine x_iload_n C dX4_comes_94 rfl ?_
              refine x_iload_n C dX4_comes_95 rfl ?_
              refine x_iconst C 1 (by decide) dX4_comes_96 ?_
              refine x_isub C dX4_comes_97 ?_
              rw [nI_m1 (by omega)]
              refine x_cV1 C yo_X4_taken m_X4_130 rfl rfl (by first | assumption | exact Nat.one_pos) (c_X4_taken l D dA base n ad I J R hT e0 (a - 1) k a pls ys he hk hon ht (by omega) (by omega)) dX4_comes_98 rfl rfl (Nat.le_of_ble_eq_true rfl) ⟨by decide, by decide⟩ ⟨by decide, by decide⟩ ?_
              refine x_lconst C 0 (by decide) dX4_comes_101 ?_
              refine x_lcmp C dX4_comes_102 ?_
              refine x_if_ne C 109 dX4_comes_103 (by decide) (fun h103 => ?_) (fun h103 => ?_)
              · skip
                rw [lg_ne] at h103
                refine x_aload_n C dX4_comes_109 rfl ?_
                refine x_getF C hT f_X4_7 rfl rfl (by first | assumption | exact Nat.one_pos) dX4_comes_110 ?_
                refine x_iload_n C dX4_comes_113 rfl ?_
                refine x_ialdN C (k) rfl rfl rfl (by first | assumption | exact Nat.one_pos) hk (by decide) dX4_comes_114 ?_
                refine x_iconst C 2 (by decide) dX4_comes_115 ?_
                refine x_icmp_ne C 123 dX4_comes_116 (by decide) (fun h116 => ?_) (fun h116 => ?_)
                · skip
                  refine x_iload_n C dX4_comes_123 rfl ?_
                  refine x_iload C dX4_comes_124 rfl ?_
                  refine x_icmp_ge C 133 dX4_comes_126 (by decide) (fun h126 => ?_) (fun h126 => ?_)
                  · skip
                    have q126 : ¬ a < r := fun z => absurd h126 (nI_ge z (by omega))
                    refine x_iconst C (-1) (by decide) dX4_comes_133 ?_
                    exact x_iret C (po_r (by unfold cms; rw [if_neg (fun z => z.elim (fun w => w h28) (fun w => absurd w.1 (by decide)))]; rw [if_neg (fun z => absurd z.1 (by decide))]; rw [if_neg (fun z => h103 z.2.2)]; rw [if_pos (Or.inl (by decide))]; rw [if_neg q126])) dX4_comes_134
                  · skip
                    have q126 : a < r := Nat.not_le.mp (fun z => h126 (nI_le z (by omega)))
                    refine x_iload_n C dX4_comes_129 rfl ?_
                    refine x_goto C 134 dX4_comes_130 (by decide) ?_
                    exact x_iret C (po_r (by unfold cms; rw [if_neg (fun z => z.elim (fun w => w h28) (fun w => absurd w.1 (by decide)))]; rw [if_neg (fun z => absurd z.1 (by decide))]; rw [if_neg (fun z => h103 z.2.2)]; rw [if_pos (Or.inl (by decide))]; rw [if_pos q126])) dX4_comes_134
                · skip
                  rw [hf] at h116
                  exact absurd h116 (by decide)
              · skip
                rw [lg_cmp_eq] at h103
                refine x_bipush C (-2) (by decide) dX4_comes_106 ?_
                exact x_iret C (po_r (by unfold cms; rw [if_neg (fun z => z.elim (fun w => w h28) (fun w => absurd w.1 (by decide)))]; rw [if_neg (fun z => absurd z.1 (by decide))]; rw [if_pos ⟨rfl, q90, h103⟩])) dX4_comes_108
        · skip
          rw [hf] at h56
          exact absurd h56 (by decide)
      · skip
        rw [hf] at h38
        exact absurd h38 (by decide)
  · skip
    refine x_aload_n C dX4_comes_22 rfl ?_
    refine x_getF C hT f_X4_47 rfl rfl (by first | assumption | exact Nat.one_pos) dX4_comes_23 ?_
    refine x_iload_n C dX4_comes_26 rfl ?_
    refine x_zaldN C (k) rfl rfl rfl (by first | assumption | exact Nat.one_pos) hk (by decide) dX4_comes_27 ?_
    refine x_if_ne C 46 dX4_comes_28 (by decide) (fun h28 => ?_) (fun h28 => ?_)
    · skip
      refine x_bipush C (-2) (by decide) dX4_comes_46 ?_
      exact x_iret C (po_r (by unfold cms; rw [if_pos (Or.inl h28)])) dX4_comes_48
    · skip
      refine x_aload_n C dX4_comes_31 rfl ?_
      refine x_getF C hT f_X4_7 rfl rfl (by first | assumption | exact Nat.one_pos) dX4_comes_32 ?_
      refine x_iload_n C dX4_comes_35 rfl ?_
      refine x_ialdN C (k) rfl rfl rfl (by first | assumption | exact Nat.one_pos) hk (by decide) dX4_comes_36 ?_
      refine x_iconst C 5 (by decide) dX4_comes_37 ?_
      refine x_icmp_ne C 49 dX4_comes_38 (by decide) (fun h38 => ?_) (fun h38 => ?_)
      · skip
        refine x_aload_n C dX4_comes_49 rfl ?_
        refine x_getF C hT f_X4_7 rfl rfl (by first | assumption | exact Nat.one_pos) dX4_comes_50 ?_
        refine x_iload_n C dX4_comes_53 rfl ?_
        refine x_ialdN C (k) rfl rfl rfl (by first | assumption | exact Nat.one_pos) hk (by decide) dX4_comes_54 ?_
        refine x_iconst C 1 (by decide) dX4_comes_55 ?_
        refine x_icmp_ne C 78 dX4_comes_56 (by decide) (fun h56 => ?_) (fun h56 => ?_)
        · skip
          refine x_aload_n C dX4_comes_78 rfl ?_
          refine x_getF C hT f_X4_7 rfl rfl (by first | assumption | exact Nat.one_pos) dX4_comes_79 ?_
          refine x_iload_n C dX4_comes_82 rfl ?_
          refine x_ialdN C (k) rfl rfl rfl (by first | assumption | exact Nat.one_pos) hk (by decide) dX4_comes_83 ?_
          refine x_iconst C 3 (by decide) dX4_comes_84 ?_
          refine x_icmp_ne C 109 dX4_comes_85 (by decide) (fun h85 => ?_) (fun h85 => ?_)
          · skip
            refine x_aload_n C dX4_comes_109 rfl ?_
            refine x_getF C hT f_X4_7 rfl rfl (by first | assumption | exact Nat.one_pos) dX4_comes_110 ?_
            refine x_iload_n C dX4_comes_113 rfl ?_
            refine x_ialdN C (k) rfl rfl rfl (by first | assumption | exact Nat.one_pos) hk (by decide) dX4_comes_114 ?_
            refine x_iconst C 2 (by decide) dX4_comes_115 ?_
            refine x_icmp_ne C 123 dX4_comes_116 (by decide) (fun h116 => ?_) (fun h116 => ?_)
            · skip
              refine x_iload_n C dX4_comes_123 rfl ?_
              refine x_iload C dX4_comes_124 rfl ?_
              refine x_icmp_ge C 133 dX4_comes_126 (by decide) (fun h126 => ?_) (fun h126 => ?_)
              · skip
                have q126 : ¬ a < r := fun z => absurd h126 (nI_ge z (by omega))
                refine x_iconst C (-1) (by decide) dX4_comes_133 ?_
                exact x_iret C (po_r (by unfold cms; rw [if_neg (fun z => z.elim (fun w => w h28) (fun w => absurd w.1 (by decide)))]; rw [if_neg (fun z => absurd z.1 (by decide))]; rw [if_neg (fun z => absurd z.1 (by decide))]; rw [if_pos (Or.inl (by decide))]; rw [if_neg q126])) dX4_comes_134
              · skip
                have q126 : a < r := Nat.not_le.mp (fun z => h126 (nI_le z (by omega)))
                refine x_iload_n C dX4_comes_129 rfl ?_
                refine x_goto C 134 dX4_comes_130 (by decide) ?_
                exact x_iret C (po_r (by unfold cms; rw [if_neg (fun z => z.elim (fun w => w h28) (fun w => absurd w.1 (by decide)))]; rw [if_neg (fun z => absurd z.1 (by decide))]; rw [if_neg (fun z => absurd z.1 (by decide))]; rw [if_pos (Or.inl (by decide))]; rw [if_pos q126])) dX4_comes_134
            · skip
              rw [hf] at h116
              exact absurd h116 (by decide)
          · skip
            rw [hf] at h85
            exact absurd h85 (by decide)
        · skip
          rw [hf] at h56
          exact absurd h56 (by decide)
      · skip
        rw [hf] at h38
        exact absurd h38 (by decide)
  · skip
    refine x_aload_n C dX4_comes_22 rfl ?_
    refine x_getF C hT f_X4_47 rfl rfl (by first | assumption | exact Nat.one_pos) dX4_comes_23 ?_
    refine x_iload_n C dX4_comes_26 rfl ?_
    refine x_zaldN C (k) rfl rfl rfl (by first | assumption | exact Nat.one_pos) hk (by decide) dX4_comes_27 ?_
    refine x_if_ne C 46 dX4_comes_28 (by decide) (fun h28 => ?_) (fun h28 => ?_)
    · skip
      refine x_bipush C (-2) (by decide) dX4_comes_46 ?_
      exact x_iret C (po_r (by unfold cms; rw [if_pos (Or.inl h28)])) dX4_comes_48
    · skip
      refine x_aload_n C dX4_comes_31 rfl ?_
      refine x_getF C hT f_X4_7 rfl rfl (by first | assumption | exact Nat.one_pos) dX4_comes_32 ?_
      refine x_iload_n C dX4_comes_35 rfl ?_
      refine x_ialdN C (k) rfl rfl rfl (by first | assumption | exact Nat.one_pos) hk (by decide) dX4_comes_36 ?_
      refine x_iconst C 5 (by decide) dX4_comes_37 ?_
      refine x_icmp_ne C 49 dX4_comes_38 (by decide) (fun h38 => ?_) (fun h38 => ?_)
      · skip
        rw [hf] at h38
        exact absurd rfl h38
      · skip
        refine x_iload C dX4_comes_41 rfl ?_
        refine x_if_ne C 49 dX4_comes_43 (by decide) (fun h43 => ?_) (fun h43 => ?_)
        · skip
          have q43 : ¬ r = 0 := fun z => h43 (by rw [z]; rfl)
          refine x_aload_n C dX4_comes_49 rfl ?_
          refine x_getF C hT f_X4_7 rfl rfl (by first | assumption | exact Nat.one_pos) dX4_comes_50 ?_
          refine x_iload_n C dX4_comes_53 rfl ?_
          refine x_ialdN C (k) rfl rfl rfl (by first | assumption | exact Nat.one_pos) hk (by decide) dX4_comes_54 ?_
          refine x_iconst C 1 (by decide) dX4_comes_55 ?_
          refine x_icmp_ne C 78 dX4_comes_56 (by decide) (fun h56 => ?_) (fun h56 => ?_)
          · skip
            refine x_aload_n C dX4_comes_78 rfl ?_
            refine x_getF C hT f_X4_7 rfl rfl (by first | assumption | exact Nat.one_pos) dX4_comes_79 ?_
            refine x_iload_n C dX4_comes_82 rfl ?_
            refine x_ialdN C (k) rfl rfl rfl (by first | assumption | exact Nat.one_pos) hk (by decide) dX4_comes_83 ?_
            refine x_iconst C 3 (by decide) dX4_comes_84 ?_
            refine x_icmp_ne C 109 dX4_comes_85 (by decide) (fun h85 => ?_) (fun h85 => ?_)
            · skip
              refine x_aload_n C dX4_comes_109 rfl ?_
              refine x_getF C hT f_X4_7 rfl rfl (by first | assumption | exact Nat.one_pos) dX4_comes_110 ?_
              refine x_iload_n C dX4_comes_113 rfl ?_
              refine x_ialdN C (k) rfl rfl rfl (by first | assumption | exact Nat.one_pos) hk (by decide) dX4_comes_114 ?_
              refine x_iconst C 2 (by decide) dX4_comes_115 ?_
              refine x_icmp_ne C 123 dX4_comes_116 (by decide) (fun h116 => ?_) (fun h116 => ?_)
              · skip
                refine x_iload_n C dX4_comes_123 rfl ?_
                refine x_iload C dX4_comes_124 rfl ?_
                refine x_icmp_ge C 133 dX4_comes_126 (by decide) (fun h126 => ?_) (fun h126 => ?_)
                · skip
                  have q126 : ¬ a < r := fun z => absurd h126 (nI_ge z (by omega))
                  refine x_iconst C (-1) (by decide) dX4_comes_133 ?_
                  exact x_iret C (po_r (by unfold cms; rw [if_neg (fun z => z.elim (fun w => w h28) (fun w => q43 w.2))]; rw [if_neg (fun z => absurd z.1 (by decide))]; rw [if_neg (fun z => absurd z.1 (by decide))]; rw [if_pos (Or.inl (by decide))]; rw [if_neg q126])) dX4_comes_134
                · skip
                  have q126 : a < r := Nat.not_le.mp (fun z => h126 (nI_le z (by omega)))
                  refine x_iload_n C dX4_comes_129 rfl ?_
                  refine x_goto C 134 dX4_comes_130 (by decide) ?_
                  exact x_iret C (po_r (by unfold cms; rw [if_neg (fun z => z.elim (fun w => w h28) (fun w => q43 w.2))]; rw [if_neg (fun z => absurd z.1 (by decide))]; rw [if_neg (fun z => absurd z.1 (by decide))]; rw [if_pos (Or.inl (by decide))]; rw [if_pos q126])) dX4_comes_134
              · skip
                rw [hf] at h116
                exact absurd h116 (by decide)
            · skip
              rw [hf] at h85
              exact absurd h85 (by decide)
          · skip
            rw [hf] at h56
            exact absurd h56 (by decide)
        · skip
          have q43 : r = 0 := (nI_eq (b := 0) (by omega) (by decide)).mp h43
          refine x_bipush C (-2) (by decide) dX4_comes_46 ?_
          exact x_iret C (po_r (by unfold cms; rw [if_pos (Or.inr ⟨rfl, q43⟩)])) dX4_comes_48

set_option maxRecDepth 100000 in
set_option maxHeartbeats 4000000 in
theorem c_X4_outcome (l : Launch) (D : va_G) (dA : Nat → ClassId) (base n : Nat) (ad : Fa) (I : Fi) (J : Fj) (R : Fr) (hT : ST n R) (e0 f : Nat) (k a : Nat) (pls ys : Nat → Nat) (he : e0 < 200) (hk : k < 40) (hon : I 38 0 e0 = nI k) (ht : TKX I e0 k a pls ys) (hfar : I 39 0 e0 = nI a) (ha8 : a ≤ 8) (hf : I 23 0 k = nI f) (hf6 : f < 6) (h3 : f = 3 → ∀ i, 0 < i → i < a → ¬ J 34 0 (ys i) = 0) : CT l D dA base yX4_outcome cX4_outcome 9 (some .long) 2 0 0 [.ref (ad 11 0), .int (nI e0)] ad (Nn n) I J R (po (some (.long (ocm f a (fun i => J 34 0 (ys i))))) ad (Nn n) I J R) := by
  refine CT.of 7 (L0 := [some (.ref (ad 11 0)), some (.int (nI e0)), none, none, none, none, none, none, none]) (by decide +kernel) rfl (Nat.le_of_ble_eq_true rfl) ?_
  intro p e s m args below meth c C
  have fin : ∀ v : Int64, rsl f v = ocm f a (fun i => J 34 0 (ys i)) → GX p l e (rmX 2 0 0) s m args below meth c (MQ below (CQ D dA base (po (some (.long (ocm f a (fun i => J 34 0 (ys i))))) ad (Nn n) I J R)) args s 0 0 (fun q => base ≤ q)) D dA base 9 ad (Nn n) I J R 0 0 151 [some (.ref (ad 11 0)), some (.int (nI e0)), some (.int (nI f)), some (.int (nI a)), some (.long v), none, none, none, none] [] := by
    intro v hv
    refine x_iload_n C dX4_outcome_151 rfl ?_
    refine x_iconst C 4 (by decide) dX4_outcome_152 ?_
    refine x_icmp_ne C 163 dX4_outcome_153 (by decide) (fun h153 => ?_) (fun h153 => ?_)
    · skip
      have q : ¬ f = 4 := fun z => h153 (by rw [z]; rfl)
      refine x_lload C dX4_outcome_163 rfl ?_
      exact x_lret C (po_r (by rw [← hv]; simp [rsl, q])) dX4_outcome_165
    · skip
      have q : f = 4 := (nI_eq (b := 4) (by omega) (by decide)).mp h153
      refine x_lload C dX4_outcome_156 rfl ?_
      refine x_lconst C 1 (by decide) dX4_outcome_158 ?_
      refine x_land C dX4_outcome_159 ?_
      refine x_goto C 165 dX4_outcome_160 (by decide) ?_
      exact x_lret C (po_r (by rw [← hv]; simp [rsl, q])) dX4_outcome_165
  have loop : ∀ (v0 : Int64), oc0 f a (fun i => J 34 0 (ys i)) = v0 → ∀ (g t : Nat), t + 1 + g = a → GX p l e (rmX 2 0 0) s m args below meth c (MQ below (CQ D dA base (po (some (.long (ocm f a (fun i => J 34 0 (ys i))))) ad (Nn n) I J R)) args s 0 0 (fun q => base ≤ q)) D dA base 9 ad (Nn n) I J R 0 0 59 [some (.ref (ad 11 0)), some (.int (nI e0)), some (.int (nI f)), some (.int (nI a)), some (.long (oub f (fun i => J 34 0 (ys i)) v0 t)), none, some (.int (nI (t + 1))), none, none] [] := by
    intro v0 hv0 g
    induction g with
    | zero =>
      intro t hta
      refine x_iload C dX4_outcome_59 rfl ?_
      refine x_iload_n C dX4_outcome_61 rfl ?_
      refine x_icmp_ge C 151 dX4_outcome_62 (by decide) (fun h62 => ?_) (fun h62 => ?_)
      · skip
        exact x_drop 6 rfl (fin _ (by rw [ocm, hv0, show a - 1 = t by omega]))
      · skip
        exact absurd (nI_le (show a ≤ t + 1 by omega) (by omega)) h62
    | succ g ih =>
      intro t hta
      refine x_iload C dX4_outcome_59 rfl ?_
      refine x_iload_n C dX4_outcome_61 rfl ?_
      refine x_icmp_ge C 151 dX4_outcome_62 (by decide) (fun h62 => ?_) (fun h62 => ?_)
      · skip
        exact absurd h62 (nI_ge (show t + 1 < a by omega) (by omega))
      · skip
        refine x_aload_n C dX4_outcome_65 rfl ?_
        refine x_iload_n C dX4_outcome_66 rfl ?_
        refine x_iload C dX4_outcome_67 rfl ?_
        refine x_cV1 C yo_X4_taken m_X4_130 rfl rfl (by first | assumption | exact Nat.one_pos) (c_X4_taken l D dA base n ad I J R hT e0 (t + 1) k a pls ys he hk hon ht (by omega) (by omega)) dX4_outcome_69 rfl rfl (Nat.le_of_ble_eq_true rfl) ⟨by decide, by decide⟩ ⟨by decide, by decide⟩ ?_
        refine x_lstore C dX4_outcome_72 (by decide) rfl rfl ?_
        rcases (show f = 0 ∨ f = 1 ∨ f = 2 ∨ f = 3 ∨ f = 4 ∨ f = 5 by omega) with rfl | rfl | rfl | rfl | rfl | rfl
        · skip
          refine x_iload_n C dX4_outcome_74 rfl ?_
          refine x_if_eq C 83 dX4_outcome_75 (by decide) (fun h75 => ?_) (fun h75 => ?_)
          · skip
            refine x_lload C dX4_outcome_83 rfl ?_
            refine x_lload C dX4_outcome_85 rfl ?_
            refine x_ladd C dX4_outcome_87 ?_
            refine x_lstore C dX4_outcome_88 (by decide) rfl rfl ?_
            refine x_goto C 145 dX4_outcome_90 (by decide) ?_
            refine x_iinc C _ dX4_outcome_145 rfl rfl (by decide) rfl rfl ?_
            refine x_goto C 59 dX4_outcome_148 (by decide) ?_
            exact x_drop 7 rfl (x_eqL (ih (t + 1) (by omega)) rfl (by rw [← nI_1 (t + 1), show oub _ (fun i => J 34 0 (ys i)) v0 (t + 1) = _ from by rw [oub, ost, if_pos (by decide)]]; rfl) rfl rfl rfl rfl)
          · skip
            exact absurd rfl h75
        · skip
          refine x_iload_n C dX4_outcome_74 rfl ?_
          refine x_if_eq C 83 dX4_outcome_75 (by decide) (fun h75 => ?_) (fun h75 => ?_)
          · skip
            exact absurd h75 (by decide)
          · skip
            refine x_iload_n C dX4_outcome_78 rfl ?_
            refine x_iconst C 4 (by decide) dX4_outcome_79 ?_
            refine x_icmp_ne C 93 dX4_outcome_80 (by decide) (fun h80 => ?_) (fun h80 => ?_)
            · skip
              refine x_iload_n C dX4_outcome_93 rfl ?_
              refine x_iconst C 3 (by decide) dX4_outcome_94 ?_
              refine x_icmp_ne C 123 dX4_outcome_95 (by decide) (fun h95 => ?_) (fun h95 => ?_)
              · skip
                refine x_iload_n C dX4_outcome_123 rfl ?_
                refine x_iconst C 5 (by decide) dX4_outcome_124 ?_
                refine x_icmp_ne C 145 dX4_outcome_125 (by decide) (fun h125 => ?_) (fun h125 => ?_)
                · skip
                  refine x_iinc C _ dX4_outcome_145 rfl rfl (by decide) rfl rfl ?_
                  refine x_goto C 59 dX4_outcome_148 (by decide) ?_
                  exact x_drop 7 rfl (x_eqL (ih (t + 1) (by omega)) rfl (by rw [← nI_1 (t + 1), show oub _ (fun i => J 34 0 (ys i)) v0 (t + 1) = _ from by rw [oub, ost, if_neg (by decide), if_neg (by decide), if_neg (by decide)]]; rfl) rfl rfl rfl rfl)
                · skip
                  exact absurd h125 (by decide)
              · skip
                exact absurd h95 (by decide)
            · skip
              exact absurd h80 (by decide)
        · skip
          refine x_iload_n C dX4_outcome_74 rfl ?_
          refine x_if_eq C 83 dX4_outcome_75 (by decide) (fun h75 => ?_) (fun h75 => ?_)
          · skip
            exact absurd h75 (by decide)
          · skip
            refine x_iload_n C dX4_outcome_78 rfl ?_
            refine x_iconst C 4 (by decide) dX4_outcome_79 ?_
            refine x_icmp_ne C 93 dX4_outcome_80 (by decide) (fun h80 => ?_) (fun h80 => ?_)
            · skip
              refine x_iload_n C dX4_outcome_93 rfl ?_
              refine x_iconst C 3 (by decide) dX4_outcome_94 ?_
              refine x_icmp_ne C 123 dX4_outcome_95 (by decide) (fun h95 => ?_) (fun h95 => ?_)
              · skip
                refine x_iload_n C dX4_outcome_123 rfl ?_
                refine x_iconst C 5 (by decide) dX4_outcome_124 ?_
                refine x_icmp_ne C 145 dX4_outcome_125 (by decide) (fun h125 => ?_) (fun h125 => ?_)
                · skip
                  refine x_iinc C _ dX4_outcome_145 rfl rfl (by decide) rfl rfl ?_
                  refine x_goto C 59 dX4_outcome_148 (by decide) ?_
                  exact x_drop 7 rfl (x_eqL (ih (t + 1) (by omega)) rfl (by rw [← nI_1 (t + 1), show oub _ (fun i => J 34 0 (ys i)) v0 (t + 1) = _ from by rw [oub, ost, if_neg (by decide), if_neg (by decide), if_neg (by decide)]]; rfl) rfl rfl rfl rfl)
                · skip
                  exact absurd h125 (by decide)
              · skip
                exact absurd h95 (by decide)
            · skip
              exact absurd h80 (by decide)
        · skip
          refine x_iload_n C dX4_outcome_74 rfl ?_
          refine x_if_eq C 83 dX4_outcome_75 (by decide) (fun h75 => ?_) (fun h75 => ?_)
          · skip
            exact absurd h75 (by decide)
          · skip
            refine x_iload_n C dX4_outcome_78 rfl ?_
            refine x_iconst C 4 (by decide) dX4_outcome_79 ?_
            refine x_icmp_ne C 93 dX4_outcome_80 (by decide) (fun h80 => ?_) (fun h80 => ?_)
            · skip
              refine x_iload_n C dX4_outcome_93 rfl ?_
              refine x_iconst C 3 (by decide) dX4_outcome_94 ?_
              refine x_icmp_ne C 123 dX4_outcome_95 (by decide) (fun h95 => ?_) (fun h95 => ?_)
              · skip
                exact absurd rfl h95
              · skip
                refine x_lload C dX4_outcome_98 rfl ?_
                refine x_ldc2 C (-1) (gd_in (by decide +kernel) rfl) dX4_outcome_100 ?_
                refine x_lcmp C dX4_outcome_103 ?_
                refine x_if_ne C 113 dX4_outcome_104 (by decide) (fun h104 => ?_) (fun h104 => ?_)
                · skip
                  rw [lg_ne] at h104
                  refine x_lload C dX4_outcome_113 rfl ?_
                  refine x_lload C dX4_outcome_115 rfl ?_
                  refine x_ldiv C (h3 rfl (t + 1) (by omega) (by omega)) dX4_outcome_117 ?_
                  refine x_lstore C dX4_outcome_118 (by decide) rfl rfl ?_
                  refine x_goto C 145 dX4_outcome_120 (by decide) ?_
                  refine x_iinc C _ dX4_outcome_145 rfl rfl (by decide) rfl rfl ?_
                  refine x_goto C 59 dX4_outcome_148 (by decide) ?_
                  exact x_drop 7 rfl (x_eqL (ih (t + 1) (by omega)) rfl (by rw [← nI_1 (t + 1), show oub _ (fun i => J 34 0 (ys i)) v0 (t + 1) = _ from by rw [oub, ost, if_neg (by decide), if_pos rfl, if_neg h104]]; rfl) rfl rfl rfl rfl)
                · skip
                  rw [lg_cmp_eq] at h104
                  refine x_lload C dX4_outcome_107 rfl ?_
                  refine x_lneg C dX4_outcome_109 ?_
                  refine x_goto C 118 dX4_outcome_110 (by decide) ?_
                  refine x_lstore C dX4_outcome_118 (by decide) rfl rfl ?_
                  refine x_goto C 145 dX4_outcome_120 (by decide) ?_
                  refine x_iinc C _ dX4_outcome_145 rfl rfl (by decide) rfl rfl ?_
                  refine x_goto C 59 dX4_outcome_148 (by decide) ?_
                  exact x_drop 7 rfl (x_eqL (ih (t + 1) (by omega)) rfl (by rw [← nI_1 (t + 1), show oub _ (fun i => J 34 0 (ys i)) v0 (t + 1) = _ from by rw [oub, ost, if_neg (by decide), if_pos rfl, if_pos h104]]; rfl) rfl rfl rfl rfl)
            · skip
              exact absurd h80 (by decide)
        · skip
          refine x_iload_n C dX4_outcome_74 rfl ?_
          refine x_if_eq C 83 dX4_outcome_75 (by decide) (fun h75 => ?_) (fun h75 => ?_)
          · skip
            exact absurd h75 (by decide)
          · skip
            refine x_iload_n C dX4_outcome_78 rfl ?_
            refine x_iconst C 4 (by decide) dX4_outcome_79 ?_
            refine x_icmp_ne C 93 dX4_outcome_80 (by decide) (fun h80 => ?_) (fun h80 => ?_)
            · skip
              exact absurd rfl h80
            · skip
              refine x_lload C dX4_outcome_83 rfl ?_
              refine x_lload C dX4_outcome_85 rfl ?_
              refine x_ladd C dX4_outcome_87 ?_
              refine x_lstore C dX4_outcome_88 (by decide) rfl rfl ?_
              refine x_goto C 145 dX4_outcome_90 (by decide) ?_
              refine x_iinc C _ dX4_outcome_145 rfl rfl (by decide) rfl rfl ?_
              refine x_goto C 59 dX4_outcome_148 (by decide) ?_
              exact x_drop 7 rfl (x_eqL (ih (t + 1) (by omega)) rfl (by rw [← nI_1 (t + 1), show oub _ (fun i => J 34 0 (ys i)) v0 (t + 1) = _ from by rw [oub, ost, if_pos (by decide)]]; rfl) rfl rfl rfl rfl)
        · skip
          refine x_iload_n C dX4_outcome_74 rfl ?_
          refine x_if_eq C 83 dX4_outcome_75 (by decide) (fun h75 => ?_) (fun h75 => ?_)
          · skip
            exact absurd h75 (by decide)
          · skip
            refine x_iload_n C dX4_outcome_78 rfl ?_
            refine x_iconst C 4 (by decide) dX4_outcome_79 ?_
            refine x_icmp_ne C 93 dX4_outcome_80 (by decide) (fun h80 => ?_) (fun h80 => ?_)
            · skip
              refine x_iload_n C dX4_outcome_93 rfl ?_
              refine x_iconst C 3 (by decide) dX4_outcome_94 ?_
              refine x_icmp_ne C 123 dX4_outcome_95 (by decide) (fun h95 => ?_) (fun h95 => ?_)
              · skip
                refine x_iload_n C dX4_outcome_123 rfl ?_
                refine x_iconst C 5 (by decide) dX4_outcome_124 ?_
                refine x_icmp_ne C 145 dX4_outcome_125 (by decide) (fun h125 => ?_) (fun h125 => ?_)
                · skip
                  exact absurd rfl h125
                · skip
                  refine x_lload C dX4_outcome_128 rfl ?_
                  refine x_lload C dX4_outcome_130 rfl ?_
                  refine x_lcmp C dX4_outcome_132 ?_
                  refine x_if_le C 141 dX4_outcome_133 (by decide) (fun h133 => ?_) (fun h133 => ?_)
                  · skip
                    rw [lg_cmp_le] at h133
                    have q133 : ¬ oub 5 (fun i => J 34 0 (ys i)) v0 t < J 34 0 (ys (t + 1)) := Int64.not_lt.mpr h133
                    refine x_lload C dX4_outcome_141 rfl ?_
                    refine x_lstore C dX4_outcome_143 (by decide) rfl rfl ?_
                    refine x_iinc C _ dX4_outcome_145 rfl rfl (by decide) rfl rfl ?_
                    refine x_goto C 59 dX4_outcome_148 (by decide) ?_
                    exact x_drop 7 rfl (x_eqL (ih (t + 1) (by omega)) rfl (by rw [← nI_1 (t + 1), show oub _ (fun i => J 34 0 (ys i)) v0 (t + 1) = _ from by rw [oub, ost, if_neg (by decide), if_neg (by decide), if_pos rfl, if_neg q133]]; rfl) rfl rfl rfl rfl)
                  · skip
                    rw [lg_cmp_le] at h133
                    have q133 : oub 5 (fun i => J 34 0 (ys i)) v0 t < J 34 0 (ys (t + 1)) := Int64.not_le.mp h133
                    refine x_lload C dX4_outcome_136 rfl ?_
                    refine x_goto C 143 dX4_outcome_138 (by decide) ?_
                    refine x_lstore C dX4_outcome_143 (by decide) rfl rfl ?_
                    refine x_iinc C _ dX4_outcome_145 rfl rfl (by decide) rfl rfl ?_
                    refine x_goto C 59 dX4_outcome_148 (by decide) ?_
                    exact x_drop 7 rfl (x_eqL (ih (t + 1) (by omega)) rfl (by rw [← nI_1 (t + 1), show oub _ (fun i => J 34 0 (ys i)) v0 (t + 1) = _ from by rw [oub, ost, if_neg (by decide), if_neg (by decide), if_pos rfl, if_pos q133]]; rfl) rfl rfl rfl rfl)
              · skip
                exact absurd h95 (by decide)
            · skip
              exact absurd h80 (by decide)
  have start : ∀ (v0 : Int64), oc0 f a (fun i => J 34 0 (ys i)) = v0 → GX p l e (rmX 2 0 0) s m args below meth c (MQ below (CQ D dA base (po (some (.long (ocm f a (fun i => J 34 0 (ys i))))) ad (Nn n) I J R)) args s 0 0 (fun q => base ≤ q)) D dA base 9 ad (Nn n) I J R 0 0 56 [some (.ref (ad 11 0)), some (.int (nI e0)), some (.int (nI f)), some (.int (nI a)), some (.long v0), none, none, none, none] [] := by
    intro v0 hv0
    refine x_iconst C 1 (by decide) dX4_outcome_56 ?_
    refine x_istore C dX4_outcome_57 (by decide) rfl rfl ?_
    skip
    rcases Nat.eq_zero_or_pos a with ha0 | ha0
    · skip
      refine x_iload C dX4_outcome_59 rfl ?_
      refine x_iload_n C dX4_outcome_61 rfl ?_
      refine x_icmp_ge C 151 dX4_outcome_62 (by decide) (fun h62 => ?_) (fun h62 => ?_)
      · skip
        exact x_drop 6 rfl (fin _ (by rw [ocm, hv0, ha0]; rfl))
      · skip
        exact absurd (nI_le (b := 1) (show a ≤ 1 by omega) (by decide)) h62
    · exact loop v0 hv0 (a - 1) 0 (by omega)
  refine x_aload_n C dX4_outcome_0 rfl ?_
  refine x_getF C hT f_X4_7 rfl rfl (by first | assumption | exact Nat.one_pos) dX4_outcome_1 ?_
  refine x_aload_n C dX4_outcome_4 rfl ?_
  refine x_getF C hT f_X4_57 rfl rfl (by first | assumption | exact Nat.one_pos) dX4_outcome_5 ?_
  refine x_iload_n C dX4_outcome_8 rfl ?_
  refine x_ialdN C (e0) rfl rfl rfl (by first | assumption | exact Nat.one_pos) he (by decide) dX4_outcome_9 ?_
  rw [hon]
  refine x_ialdN C (k) rfl rfl rfl (by first | assumption | exact Nat.one_pos) hk (by decide) dX4_outcome_10 ?_
  rw [hf]
  refine x_istore_n C dX4_outcome_11 (by decide) rfl rfl ?_
  refine x_aload_n C dX4_outcome_12 rfl ?_
  refine x_getF C hT f_X4_60 rfl rfl (by first | assumption | exact Nat.one_pos) dX4_outcome_13 ?_
  refine x_iload_n C dX4_outcome_16 rfl ?_
  refine x_ialdN C (e0) rfl rfl rfl (by first | assumption | exact Nat.one_pos) he (by decide) dX4_outcome_17 ?_
  rw [hfar]
  refine x_istore_n C dX4_outcome_18 (by decide) rfl rfl ?_
  refine x_iload_n C dX4_outcome_19 rfl ?_
  refine x_if_ne C 27 dX4_outcome_20 (by decide) (fun h20 => ?_) (fun h20 => ?_)
  · skip
    have q20 : ¬ a = 0 := fun z => h20 (by rw [z]; rfl)
    refine x_iload_n C dX4_outcome_27 rfl ?_
    refine x_iconst C 1 (by decide) dX4_outcome_28 ?_
    refine x_icmp_eq C 37 dX4_outcome_29 (by decide) (fun h29 => ?_) (fun h29 => ?_)
    · skip
      have q29 : f = 1 := (nI_eq (b := 1) (by omega) (by decide)).mp h29
      refine x_aload_n C dX4_outcome_37 rfl ?_
      refine x_iload_n C dX4_outcome_38 rfl ?_
      refine x_iload_n C dX4_outcome_39 rfl ?_
      refine x_iconst C 1 (by decide) dX4_outcome_40 ?_
      refine x_isub C dX4_outcome_41 ?_
      rw [nI_m1 (by omega)]
      refine x_cV1 C yo_X4_taken m_X4_130 rfl rfl (by first | assumption | exact Nat.one_pos) (c_X4_taken l D dA base n ad I J R hT e0 (a - 1) k a pls ys he hk hon ht (by omega) (by omega)) dX4_outcome_42 rfl rfl (Nat.le_of_ble_eq_true rfl) ⟨by decide, by decide⟩ ⟨by decide, by decide⟩ ?_
      refine x_goto C 54 dX4_outcome_45 (by decide) ?_
      refine x_lstore C dX4_outcome_54 (by decide) rfl rfl ?_
      exact start _ (by rw [oc0, if_neg q20, if_pos (Or.inl q29)])
    · skip
      have q29 : ¬ f = 1 := fun z => h29 (by rw [z]; rfl)
      refine x_iload_n C dX4_outcome_32 rfl ?_
      refine x_iconst C 2 (by decide) dX4_outcome_33 ?_
      refine x_icmp_ne C 48 dX4_outcome_34 (by decide) (fun h34 => ?_) (fun h34 => ?_)
      · skip
        have q34 : ¬ f = 2 := fun z => h34 (by rw [z]; rfl)
        refine x_aload_n C dX4_outcome_48 rfl ?_
        refine x_iload_n C dX4_outcome_49 rfl ?_
        refine x_iconst C 0 (by decide) dX4_outcome_50 ?_
        refine x_cV1 C yo_X4_taken m_X4_130 rfl rfl (by first | assumption | exact Nat.one_pos) (c_X4_taken l D dA base n ad I J R hT e0 (0) k a pls ys he hk hon ht (by omega) (by decide)) dX4_outcome_51 rfl rfl (Nat.le_of_ble_eq_true rfl) ⟨by decide, by decide⟩ ⟨by decide, by decide⟩ ?_
        refine x_lstore C dX4_outcome_54 (by decide) rfl rfl ?_
        exact start _ (by rw [oc0, if_neg q20, if_neg (fun z => z.elim q29 q34)])
      · skip
        have q34 : f = 2 := (nI_eq (b := 2) (by omega) (by decide)).mp h34
        refine x_aload_n C dX4_outcome_37 rfl ?_
        refine x_iload_n C dX4_outcome_38 rfl ?_
        refine x_iload_n C dX4_outcome_39 rfl ?_
        refine x_iconst C 1 (by decide) dX4_outcome_40 ?_
        refine x_isub C dX4_outcome_41 ?_
        rw [nI_m1 (by omega)]
        refine x_cV1 C yo_X4_taken m_X4_130 rfl rfl (by first | assumption | exact Nat.one_pos) (c_X4_taken l D dA base n ad I J R hT e0 (a - 1) k a pls ys he hk hon ht (by omega) (by omega)) dX4_outcome_42 rfl rfl (Nat.le_of_ble_eq_true rfl) ⟨by decide, by decide⟩ ⟨by decide, by decide⟩ ?_
        refine x_goto C 54 dX4_outcome_45 (by decide) ?_
        refine x_lstore C dX4_outcome_54 (by decide) rfl rfl ?_
        exact start _ (by rw [oc0, if_neg q20, if_pos (Or.inr q34)])
  · skip
    have q20 : a = 0 := (nI_eq (b := 0) (by omega) (by decide)).mp h20
    refine x_lconst C 0 (by decide) dX4_outcome_23 ?_
    refine x_goto C 54 dX4_outcome_24 (by decide) ?_
    refine x_lstore C dX4_outcome_54 (by decide) rfl rfl ?_
    exact start _ (by rw [oc0, if_pos q20])

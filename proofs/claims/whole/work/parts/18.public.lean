/-! run on its own pile -/
set_option maxRecDepth 100000 in
set_option maxHeartbeats 4000000 in
theorem c_run_end (l : Launch) (D : va_G) (dA : Nat → ClassId) (base n : Nat) (ad : Fa) (I : Fi) (J : Fj) (R : Fr) (hT : ST n R) (hG : KG n I R) (i : Nat) (hi : i < n) (hs4 : I 9 4 1 = nI 0) (T : Nat) (hT6 : T < 1000000) (σI : Nat → Fi) (σJ : Nat → Fj) (σR : Nat → Fr) (zs : Nat → Nat) (h0I : σI 0 = putI I 4 i 0) (h0J : σJ 0 = up3 J 7 i 3 0) (h0R : σR 0 = up3 R 10 4 0 (some i)) (hz : ∀ t, t ≤ T → σI t 9 4 1 = nI (zs t) ∧ zs t ≤ 40) (hst : ∀ t, t < T → 0 < zs t ∧ ∃ x : Int32, ¬ x = 3 ∧ CT l D dA base yX3_goOn cX3_goOn 3 (some .int) 5 0 0 [.ref (ad 0 0), .ref (ad 9 4)] ad (Nn n) (σI t) (σJ t) (σR t) (po (some (.int x)) ad (Nn n) (σI (t + 1)) (σJ (t + 1)) (σR (t + 1)))) (hend : zs T = 0) : CT l D dA base yX3_runOnOwnPile cX3_runOnOwnPile 4 (some .int) 6 0 0 [.ref (ad 0 0), .ref (ad 4 i)] ad (Nn n) I J R (po (some (.int (σI T 4 i 7))) ad (Nn n) (σI T) (σJ T) (σR T)) := by
  refine CT.of 2 (L0 := [some (.ref (ad 0 0)), some (.ref (ad 4 i)), none, none]) (by decide +kernel) rfl (Nat.le_of_ble_eq_true rfl) ?_
  intro p e s m args below meth c C
  have h45 : 4 < 5 := by decide
  have loop : ∀ (f t : Nat), t + f = T → GX p l e (rmX 6 0 0) s m args below meth c (MQ below (CQ D dA base (po (some (.int (σI T 4 i 7))) ad (Nn n) (σI T) (σJ T) (σR T))) args s 0 0 (fun q => base ≤ q)) D dA base 4 ad (Nn n) (σI t) (σJ t) (σR t) 0 0 14 [some (.ref (ad 0 0)), some (.ref (ad 4 i)), some (.ref (ad 9 4)), some (.int (nI t))] [] := by
    intro f
    induction f with
    | zero =>
      intro t ht
      have ht2 : t = T := by omega
      subst ht2
      obtain ⟨hz1, hz2⟩ := hz t (Nat.le_refl _)
      refine x_aload_n C dX3_runOnOwnPile_14 rfl ?_
      refine x_getI C f_X3_97 rfl (by first | assumption | exact Nat.one_pos) dX3_runOnOwnPile_15 ?_
      refine x_if_le C 50 dX3_runOnOwnPile_18 (by decide) (fun h18 => ?_) (fun h18 => ?_)
      · skip
        refine x_aload_n C dX3_runOnOwnPile_50 rfl ?_
        refine x_getI C f_X3_35 rfl (by first | assumption | exact Nat.one_pos) dX3_runOnOwnPile_51 ?_
        exact x_iret C (po_i _ _ _ _ _ _) dX3_runOnOwnPile_54
      · skip
        rw [hz1, hend] at h18
        exact absurd (by decide) h18
    | succ f ih =>
      intro t ht
      obtain ⟨hz1, hz2⟩ := hz t (by omega)
      obtain ⟨hpos, x, hx3, hM⟩ := hst t (by omega)
      refine x_aload_n C dX3_runOnOwnPile_14 rfl ?_
      refine x_getI C f_X3_97 rfl (by first | assumption | exact Nat.one_pos) dX3_runOnOwnPile_15 ?_
      refine x_if_le C 50 dX3_runOnOwnPile_18 (by decide) (fun h18 => ?_) (fun h18 => ?_)
      · skip
        rw [hz1] at h18
        exact absurd h18 (nI_nle hpos (by omega))
      · skip
        refine x_iload_n C dX3_runOnOwnPile_21 rfl ?_
        refine x_ldc C 1000000 (gd_in (by decide +kernel) rfl) dX3_runOnOwnPile_22 ?_
        refine x_icmp_ge C 50 dX3_runOnOwnPile_24 (by decide) (fun h24 => ?_) (fun h24 => ?_)
        · skip
          exact absurd h24 (nI_ge (b := 1000000) (show t < 1000000 by omega) (by decide))
        · skip
          refine x_aload_n C dX3_runOnOwnPile_27 rfl ?_
          refine x_aload_n C dX3_runOnOwnPile_28 rfl ?_
          refine x_cV1 C yo_X3_goOn m_X3_110 rfl rfl (by first | assumption | exact Nat.one_pos) (hM) dX3_runOnOwnPile_29 rfl rfl (Nat.le_of_ble_eq_true rfl) ⟨by decide, by decide⟩ ⟨by decide, by decide⟩ ?_
          refine x_iconst C 3 (by decide) dX3_runOnOwnPile_32 ?_
          refine x_icmp_ne C 44 dX3_runOnOwnPile_33 (by decide) (fun h33 => ?_) (fun h33 => ?_)
          · skip
            refine x_iinc C _ dX3_runOnOwnPile_44 rfl rfl (by decide) rfl rfl ?_
            refine x_goto C 14 dX3_runOnOwnPile_47 (by decide) ?_
            exact x_eqL (ih (t + 1) (by omega)) rfl (by rw [← nI_1]; rfl) rfl rfl rfl rfl
          · skip
            exact absurd h33 hx3
  refine x_aload_n C dX3_runOnOwnPile_0 rfl ?_
  refine x_getF C hT f_X3_17 rfl rfl (by first | assumption | exact Nat.one_pos) dX3_runOnOwnPile_1 ?_
  refine x_iconst C 4 (by decide) dX3_runOnOwnPile_4 ?_
  refine x_aaldS C (4) rfl rfl rfl rfl (by first | assumption | exact Nat.one_pos) (by decide) (by decide) (hG.2.2.2.1 4 (by decide)) dX3_runOnOwnPile_5 ?_
  refine x_astore_n C dX3_runOnOwnPile_6 (by decide) rfl rfl ?_
  refine x_aload_n C dX3_runOnOwnPile_7 rfl ?_
  refine x_aload_n C dX3_runOnOwnPile_8 rfl ?_
  refine x_cV0 C yo_X1_put m_X3_106 rfl rfl (by first | assumption | exact Nat.one_pos) (c_X1_put l D dA base n ad I J R hT 4 i 0 (by decide) hi hs4 (by decide)) dX3_runOnOwnPile_9 rfl rfl (Nat.le_of_ble_eq_true rfl) ⟨by decide, by decide⟩ ⟨by decide, by decide⟩ ?_
  refine x_iconst C 0 (by decide) dX3_runOnOwnPile_12 ?_
  refine x_istore_n C dX3_runOnOwnPile_13 (by decide) rfl rfl ?_
  exact x_eqL (loop T 0 (by omega)) rfl rfl rfl h0I.symm h0J.symm h0R.symm

set_option maxRecDepth 100000 in
set_option maxHeartbeats 4000000 in
theorem c_run_wait (l : Launch) (D : va_G) (dA : Nat → ClassId) (base n : Nat) (ad : Fa) (I : Fi) (J : Fj) (R : Fr) (hT : ST n R) (hG : KG n I R) (i : Nat) (hi : i < n) (hs4 : I 9 4 1 = nI 0) (T : Nat) (hT6 : T < 1000000) (σI : Nat → Fi) (σJ : Nat → Fj) (σR : Nat → Fr) (zs : Nat → Nat) (h0I : σI 0 = putI I 4 i 0) (h0J : σJ 0 = up3 J 7 i 3 0) (h0R : σR 0 = up3 R 10 4 0 (some i)) (hz : ∀ t, t ≤ T → σI t 9 4 1 = nI (zs t) ∧ zs t ≤ 40) (hst : ∀ t, t < T → 0 < zs t ∧ ∃ x : Int32, ¬ x = 3 ∧ CT l D dA base yX3_goOn cX3_goOn 3 (some .int) 5 0 0 [.ref (ad 0 0), .ref (ad 9 4)] ad (Nn n) (σI t) (σJ t) (σR t) (po (some (.int x)) ad (Nn n) (σI (t + 1)) (σJ (t + 1)) (σR (t + 1)))) (hw : 0 < zs T) (hTS : ST n (σR T)) (hent : ∀ j, j < zs T → ∃ k, σR T 10 4 j = some k ∧ k < n) (hlast : CT l D dA base yX3_goOn cX3_goOn 3 (some .int) 5 0 0 [.ref (ad 0 0), .ref (ad 9 4)] ad (Nn n) (σI T) (σJ T) (σR T) (po (some (.int 3)) ad (Nn n) (σI T) (σJ T) (σR T))) : CT l D dA base yX3_runOnOwnPile cX3_runOnOwnPile 4 (some .int) 6 0 0 [.ref (ad 0 0), .ref (ad 4 i)] ad (Nn n) I J R (po (some (.int (-2))) ad (Nn n) (tka (σR T) 4 (zs T) (σI T)) (σJ T) (σR T)) := by
  refine CT.of 2 (L0 := [some (.ref (ad 0 0)), some (.ref (ad 4 i)), none, none]) (by decide +kernel) rfl (Nat.le_of_ble_eq_true rfl) ?_
  intro p e s m args below meth c C
  have h45 : 4 < 5 := by decide
  have loop : ∀ (f t : Nat), t + f = T → GX p l e (rmX 6 0 0) s m args below meth c (MQ below (CQ D dA base (po (some (.int (-2))) ad (Nn n) (tka (σR T) 4 (zs T) (σI T)) (σJ T) (σR T))) args s 0 0 (fun q => base ≤ q)) D dA base 4 ad (Nn n) (σI t) (σJ t) (σR t) 0 0 14 [some (.ref (ad 0 0)), some (.ref (ad 4 i)), some (.ref (ad 9 4)), some (.int (nI t))] [] := by
    intro f
    induction f with
    | zero =>
      intro t ht
      have ht2 : t = T := by omega
      subst ht2
      obtain ⟨hz1, hz2⟩ := hz t (Nat.le_refl _)
      refine x_aload_n C dX3_runOnOwnPile_14 rfl ?_
      refine x_getI C f_X3_97 rfl (by first | assumption | exact Nat.one_pos) dX3_runOnOwnPile_15 ?_
      refine x_if_le C 50 dX3_runOnOwnPile_18 (by decide) (fun h18 => ?_) (fun h18 => ?_)
      · skip
        rw [hz1] at h18
        exact absurd h18 (nI_nle hw (by omega))
      · skip
        refine x_iload_n C dX3_runOnOwnPile_21 rfl ?_
        refine x_ldc C 1000000 (gd_in (by decide +kernel) rfl) dX3_runOnOwnPile_22 ?_
        refine x_icmp_ge C 50 dX3_runOnOwnPile_24 (by decide) (fun h24 => ?_) (fun h24 => ?_)
        · skip
          exact absurd h24 (nI_ge (b := 1000000) hT6 (by decide))
        · skip
          refine x_aload_n C dX3_runOnOwnPile_27 rfl ?_
          refine x_aload_n C dX3_runOnOwnPile_28 rfl ?_
          refine x_cV1 C yo_X3_goOn m_X3_110 rfl rfl (by first | assumption | exact Nat.one_pos) (hlast) dX3_runOnOwnPile_29 rfl rfl (Nat.le_of_ble_eq_true rfl) ⟨by decide, by decide⟩ ⟨by decide, by decide⟩ ?_
          refine x_iconst C 3 (by decide) dX3_runOnOwnPile_32 ?_
          refine x_icmp_ne C 44 dX3_runOnOwnPile_33 (by decide) (fun h33 => ?_) (fun h33 => ?_)
          · skip
            exact absurd rfl h33
          · skip
            refine x_aload_n C dX3_runOnOwnPile_36 rfl ?_
            refine x_cV1 C yo_X1_takeAll m_X3_152 rfl rfl (by first | assumption | exact Nat.one_pos) (c_X1_takeAll l D dA base n ad (σI t) (σJ t) (σR t) hTS 4 (zs t) (by decide) hz1 hz2 hent) dX3_runOnOwnPile_37 rfl rfl (Nat.le_of_ble_eq_true rfl) ⟨by decide, by decide⟩ ⟨by decide, by decide⟩ ?_
            refine x_pop C rfl dX3_runOnOwnPile_40 ?_
            refine x_bipush C (-2) (by decide) dX3_runOnOwnPile_41 ?_
            exact x_iret C (po_i _ _ _ _ _ _) dX3_runOnOwnPile_43
    | succ f ih =>
      intro t ht
      obtain ⟨hz1, hz2⟩ := hz t (by omega)
      obtain ⟨hpos, x, hx3, hM⟩ := hst t (by omega)
      refine x_aload_n C dX3_runOnOwnPile_14 rfl ?_
      refine x_getI C f_X3_97 rfl (by first | assumption | exact Nat.one_pos) dX3_runOnOwnPile_15 ?_
      refine x_if_le C 50 dX3_runOnOwnPile_18 (by decide) (fun h18 => ?_) (fun h18 => ?_)
      · skip
        rw [hz1] at h18
        exact absurd h18 (nI_nle hpos (by omega))
      · skip
        refine x_iload_n C dX3_runOnOwnPile_21 rfl ?_
        refine x_ldc C 1000000 (gd_in (by decide +kernel) rfl) dX3_runOnOwnPile_22 ?_
        refine x_icmp_ge C 50 dX3_runOnOwnPile_24 (by decide) (fun h24 => ?_) (fun h24 => ?_)
        · skip
          exact absurd h24 (nI_ge (b := 1000000) (show t < 1000000 by omega) (by decide))
        · skip
          refine x_aload_n C dX3_runOnOwnPile_27 rfl ?_
          refine x_aload_n C dX3_runOnOwnPile_28 rfl ?_
          refine x_cV1 C yo_X3_goOn m_X3_110 rfl rfl (by first | assumption | exact Nat.one_pos) (hM) dX3_runOnOwnPile_29 rfl rfl (Nat.le_of_ble_eq_true rfl) ⟨by decide, by decide⟩ ⟨by decide, by decide⟩ ?_
          refine x_iconst C 3 (by decide) dX3_runOnOwnPile_32 ?_
          refine x_icmp_ne C 44 dX3_runOnOwnPile_33 (by decide) (fun h33 => ?_) (fun h33 => ?_)
          · skip
            refine x_iinc C _ dX3_runOnOwnPile_44 rfl rfl (by decide) rfl rfl ?_
            refine x_goto C 14 dX3_runOnOwnPile_47 (by decide) ?_
            exact x_eqL (ih (t + 1) (by omega)) rfl (by rw [← nI_1]; rfl) rfl rfl rfl rfl
          · skip
            exact absurd h33 hx3
  refine x_aload_n C dX3_runOnOwnPile_0 rfl ?_
  refine x_getF C hT f_X3_17 rfl rfl (by first | assumption | exact Nat.one_pos) dX3_runOnOwnPile_1 ?_
  refine x_iconst C 4 (by decide) dX3_runOnOwnPile_4 ?_
  refine x_aaldS C (4) rfl rfl rfl rfl (by first | assumption | exact Nat.one_pos) (by decide) (by decide) (hG.2.2.2.1 4 (by decide)) dX3_runOnOwnPile_5 ?_
  refine x_astore_n C dX3_runOnOwnPile_6 (by decide) rfl rfl ?_
  refine x_aload_n C dX3_runOnOwnPile_7 rfl ?_
  refine x_aload_n C dX3_runOnOwnPile_8 rfl ?_
  refine x_cV0 C yo_X1_put m_X3_106 rfl rfl (by first | assumption | exact Nat.one_pos) (c_X1_put l D dA base n ad I J R hT 4 i 0 (by decide) hi hs4 (by decide)) dX3_runOnOwnPile_9 rfl rfl (Nat.le_of_ble_eq_true rfl) ⟨by decide, by decide⟩ ⟨by decide, by decide⟩ ?_
  refine x_iconst C 0 (by decide) dX3_runOnOwnPile_12 ?_
  refine x_istore_n C dX3_runOnOwnPile_13 (by decide) rfl rfl ?_
  exact x_eqL (loop T 0 (by omega)) rfl rfl rfl h0I.symm h0J.symm h0R.symm

/-! the public methods -/
set_option maxRecDepth 100000 in
set_option maxHeartbeats 4000000 in
theorem c_X3_worked_in (l : Launch) (D : va_G) (dA : Nat → ClassId) (base n : Nat) (ad : Fa) (I : Fi) (J : Fj) (R : Fr) (hT : ST n R) (hG : KG n I R) (k : Nat) (hk : k < n)  : CT l D dA base yX3_worked cX3_worked 3 (some .int) 1 0 0 [.ref (ad 0 0), .int (nI k)] ad (Nn n) I J R (po (some (.int (I 4 k 14))) ad (Nn n) I J R) := by
  refine CT.of 1 (L0 := [some (.ref (ad 0 0)), some (.int (nI k)), none]) (by decide +kernel) rfl (Nat.le_of_ble_eq_true rfl) ?_
  intro p e s m args below meth c C
  refine x_aload_n C dX3_worked_0 rfl ?_
  refine x_iload_n C dX3_worked_1 rfl ?_
  refine x_cV1 C yo_X3_keyAt m_X3_56 rfl rfl (by first | assumption | exact Nat.one_pos) (c_X3_keyAt_in l D dA base n ad I J R hT hG k hk) dX3_worked_2 rfl rfl (Nat.le_of_ble_eq_true rfl) ⟨by decide, by decide⟩ ⟨by decide, by decide⟩ ?_
  refine x_astore_n C dX3_worked_5 (by decide) rfl rfl ?_
  refine x_aload_n C dX3_worked_6 rfl ?_
  refine x_ifnonnull C 14 dX3_worked_7 (by decide) ?_
  refine x_aload_n C dX3_worked_14 rfl ?_
  refine x_getI C f_X3_133 rfl (by first | assumption | exact Nat.one_pos) dX3_worked_15 ?_
  exact x_iret C (po_i _ _ _ _ _ _) dX3_worked_18

set_option maxRecDepth 100000 in
set_option maxHeartbeats 4000000 in
theorem c_X3_worked_out (l : Launch) (D : va_G) (dA : Nat → ClassId) (base n : Nat) (ad : Fa) (I : Fi) (J : Fj) (R : Fr) (hT : ST n R) (hG : KG n I R) (x : Int32) (hx : x < 0 ∨ nI n ≤ x)  : CT l D dA base yX3_worked cX3_worked 3 (some .int) 1 0 0 [.ref (ad 0 0), .int x] ad (Nn n) I J R (po (some (.int 0)) ad (Nn n) I J R) := by
  refine CT.of 1 (L0 := [some (.ref (ad 0 0)), some (.int x), none]) (by decide +kernel) rfl (Nat.le_of_ble_eq_true rfl) ?_
  intro p e s m args below meth c C
  refine x_aload_n C dX3_worked_0 rfl ?_
  refine x_iload_n C dX3_worked_1 rfl ?_
  refine x_cV1 C yo_X3_keyAt m_X3_56 rfl rfl (by first | assumption | exact Nat.one_pos) (c_X3_keyAt_out l D dA base n ad I J R hT hG x hx) dX3_worked_2 rfl rfl (Nat.le_of_ble_eq_true rfl) ⟨by decide, by decide⟩ ⟨by decide, by decide⟩ ?_
  refine x_astore_nN C dX3_worked_5 (by decide) rfl rfl ?_
  refine x_aload_nN C dX3_worked_6 rfl ?_
  refine x_ifnonnullN C dX3_worked_7 ?_
  refine x_iconst C 0 (by decide) dX3_worked_10 ?_
  refine x_goto C 18 dX3_worked_11 (by decide) ?_
  exact x_iret C (po_i _ _ _ _ _ _) dX3_worked_18

set_option maxRecDepth 100000 in
set_option maxHeartbeats 4000000 in
theorem c_X3_kept_in (l : Launch) (D : va_G) (dA : Nat → ClassId) (base n : Nat) (ad : Fa) (I : Fi) (J : Fj) (R : Fr) (hT : ST n R) (hG : KG n I R) (k : Nat) (hk : k < n)  : CT l D dA base yX3_kept cX3_kept 3 (some .int) 1 0 0 [.ref (ad 0 0), .int (nI k)] ad (Nn n) I J R (po (some (.int (I 4 k 15))) ad (Nn n) I J R) := by
  refine CT.of 1 (L0 := [some (.ref (ad 0 0)), some (.int (nI k)), none]) (by decide +kernel) rfl (Nat.le_of_ble_eq_true rfl) ?_
  intro p e s m args below meth c C
  refine x_aload_n C dX3_kept_0 rfl ?_
  refine x_iload_n C dX3_kept_1 rfl ?_
  refine x_cV1 C yo_X3_keyAt m_X3_56 rfl rfl (by first | assumption | exact Nat.one_pos) (c_X3_keyAt_in l D dA base n ad I J R hT hG k hk) dX3_kept_2 rfl rfl (Nat.le_of_ble_eq_true rfl) ⟨by decide, by decide⟩ ⟨by decide, by decide⟩ ?_
  refine x_astore_n C dX3_kept_5 (by decide) rfl rfl ?_
  refine x_aload_n C dX3_kept_6 rfl ?_
  refine x_ifnonnull C 14 dX3_kept_7 (by decide) ?_
  refine x_aload_n C dX3_kept_14 rfl ?_
  refine x_getI C f_X3_136 rfl (by first | assumption | exact Nat.one_pos) dX3_kept_15 ?_
  exact x_iret C (po_i _ _ _ _ _ _) dX3_kept_18

set_option maxRecDepth 100000 in
set_option maxHeartbeats 4000000 in
theorem c_X3_kept_out (l : Launch) (D : va_G) (dA : Nat → ClassId) (base n : Nat) (ad : Fa) (I : Fi) (J : Fj) (R : Fr) (hT : ST n R) (hG : KG n I R) (x : Int32) (hx : x < 0 ∨ nI n ≤ x)  : CT l D dA base yX3_kept cX3_kept 3 (some .int) 1 0 0 [.ref (ad 0 0), .int x] ad (Nn n) I J R (po (some (.int 0)) ad (Nn n) I J R) := by
  refine CT.of 1 (L0 := [some (.ref (ad 0 0)), some (.int x), none]) (by decide +kernel) rfl (Nat.le_of_ble_eq_true rfl) ?_
  intro p e s m args below meth c C
  refine x_aload_n C dX3_kept_0 rfl ?_
  refine x_iload_n C dX3_kept_1 rfl ?_
  refine x_cV1 C yo_X3_keyAt m_X3_56 rfl rfl (by first | assumption | exact Nat.one_pos) (c_X3_keyAt_out l D dA base n ad I J R hT hG x hx) dX3_kept_2 rfl rfl (Nat.le_of_ble_eq_true rfl) ⟨by decide, by decide⟩ ⟨by decide, by decide⟩ ?_
  refine x_astore_nN C dX3_kept_5 (by decide) rfl rfl ?_
  refine x_aload_nN C dX3_kept_6 rfl ?_
  refine x_ifnonnullN C dX3_kept_7 ?_
  refine x_iconst C 0 (by decide) dX3_kept_10 ?_
  refine x_goto C 18 dX3_kept_11 (by decide) ?_
  exact x_iret C (po_i _ _ _ _ _ _) dX3_kept_18

set_option maxRecDepth 100000 in
set_option maxHeartbeats 4000000 in
theorem c_X3_version (l : Launch) (D : va_G) (dA : Nat → ClassId) (base n : Nat) (ad : Fa) (I : Fi) (J : Fj) (R : Fr) (hT : ST n R)  : CT l D dA base yX3_version cX3_version 1 (some .int) 0 0 0 [.ref (ad 0 0)] ad (Nn n) I J R (po (some (.int (I 0 0 2))) ad (Nn n) I J R) := by
  refine CT.of 0 (L0 := [some (.ref (ad 0 0))]) (by decide +kernel) rfl (Nat.le_of_ble_eq_true rfl) ?_
  intro p e s m args below meth c C
  refine x_aload_n C dX3_version_0 rfl ?_
  refine x_getI C f_X3_42 rfl (by first | assumption | exact Nat.one_pos) dX3_version_1 ?_
  exact x_iret C (po_i _ _ _ _ _ _) dX3_version_4

set_option maxRecDepth 100000 in
set_option maxHeartbeats 4000000 in
theorem c_X3_state_in (l : Launch) (D : va_G) (dA : Nat → ClassId) (base n : Nat) (ad : Fa) (I : Fi) (J : Fj) (R : Fr) (hT : ST n R) (hG : KG n I R) (k : Nat) (hk : k < n)  : CT l D dA base yX3_state cX3_state 3 (some .int) 2 0 0 [.ref (ad 0 0), .int (nI k)] ad (Nn n) I J R (po (some (.int (if sure I k = true then I 4 k 7 else 0))) ad (Nn n) I J R) := by
  refine CT.of 1 (L0 := [some (.ref (ad 0 0)), some (.int (nI k)), none]) (by decide +kernel) rfl (Nat.le_of_ble_eq_true rfl) ?_
  intro p e s m args below meth c C
  refine x_aload_n C dX3_state_0 rfl ?_
  refine x_iload_n C dX3_state_1 rfl ?_
  refine x_cV1 C yo_X3_keyAt m_X3_56 rfl rfl (by first | assumption | exact Nat.one_pos) (c_X3_keyAt_in l D dA base n ad I J R hT hG k hk) dX3_state_2 rfl rfl (Nat.le_of_ble_eq_true rfl) ⟨by decide, by decide⟩ ⟨by decide, by decide⟩ ?_
  refine x_astore_n C dX3_state_5 (by decide) rfl rfl ?_
  refine x_aload_n C dX3_state_6 rfl ?_
  refine x_ifnull C dX3_state_7 ?_
  refine x_aload_n C dX3_state_10 rfl ?_
  refine x_aload_n C dX3_state_11 rfl ?_
  refine x_cV1 C yo_X3_isSure m_X3_100 rfl rfl (by first | assumption | exact Nat.one_pos) (c_X3_isSure l D dA base n ad I J R hT k hk) dX3_state_12 rfl rfl (Nat.le_of_ble_eq_true rfl) ⟨by decide, by decide⟩ ⟨by decide, by decide⟩ ?_
  refine x_if_ne C 22 dX3_state_15 (by decide) (fun h15 => ?_) (fun h15 => ?_)
  · skip
    refine x_aload_n C dX3_state_22 rfl ?_
    refine x_getI C f_X3_35 rfl (by first | assumption | exact Nat.one_pos) dX3_state_23 ?_
    exact x_iret C (po_r (by simp_all)) dX3_state_26
  · skip
    refine x_iconst C 0 (by decide) dX3_state_18 ?_
    refine x_goto C 26 dX3_state_19 (by decide) ?_
    exact x_iret C (po_r (by simp_all)) dX3_state_26

set_option maxRecDepth 100000 in
set_option maxHeartbeats 4000000 in
theorem c_X3_state_out (l : Launch) (D : va_G) (dA : Nat → ClassId) (base n : Nat) (ad : Fa) (I : Fi) (J : Fj) (R : Fr) (hT : ST n R) (hG : KG n I R) (x : Int32) (hx : x < 0 ∨ nI n ≤ x)  : CT l D dA base yX3_state cX3_state 3 (some .int) 2 0 0 [.ref (ad 0 0), .int x] ad (Nn n) I J R (po (some (.int 0)) ad (Nn n) I J R) := by
  refine CT.of 1 (L0 := [some (.ref (ad 0 0)), some (.int x), none]) (by decide +kernel) rfl (Nat.le_of_ble_eq_true rfl) ?_
  intro p e s m args below meth c C
  refine x_aload_n C dX3_state_0 rfl ?_
  refine x_iload_n C dX3_state_1 rfl ?_
  refine x_cV1 C yo_X3_keyAt m_X3_56 rfl rfl (by first | assumption | exact Nat.one_pos) (c_X3_keyAt_out l D dA base n ad I J R hT hG x hx) dX3_state_2 rfl rfl (Nat.le_of_ble_eq_true rfl) ⟨by decide, by decide⟩ ⟨by decide, by decide⟩ ?_
  refine x_astore_nN C dX3_state_5 (by decide) rfl rfl ?_
  refine x_aload_nN C dX3_state_6 rfl ?_
  refine x_ifnullN C 18 dX3_state_7 (by decide) ?_
  refine x_iconst C 0 (by decide) dX3_state_18 ?_
  refine x_goto C 26 dX3_state_19 (by decide) ?_
  exact x_iret C (po_i _ _ _ _ _ _) dX3_state_26

set_option maxRecDepth 100000 in
set_option maxHeartbeats 4000000 in
theorem c_X3_changed_in (l : Launch) (D : va_G) (dA : Nat → ClassId) (base n : Nat) (ad : Fa) (I : Fi) (J : Fj) (R : Fr) (hT : ST n R) (hG : KG n I R) (k : Nat) (hk : k < n)  : CT l D dA base yX3_changed cX3_changed 3 (some .int) 1 0 0 [.ref (ad 0 0), .int (nI k)] ad (Nn n) I J R (po (some (.int (if I 4 k 1 = -1 ∨ ¬ I 4 k 10 = 0 then I 4 k 9 else -1))) ad (Nn n) I J R) := by
  refine CT.of 1 (L0 := [some (.ref (ad 0 0)), some (.int (nI k)), none]) (by decide +kernel) rfl (Nat.le_of_ble_eq_true rfl) ?_
  intro p e s m args below meth c C
  refine x_aload_n C dX3_changed_0 rfl ?_
  refine x_iload_n C dX3_changed_1 rfl ?_
  refine x_cV1 C yo_X3_keyAt m_X3_56 rfl rfl (by first | assumption | exact Nat.one_pos) (c_X3_keyAt_in l D dA base n ad I J R hT hG k hk) dX3_changed_2 rfl rfl (Nat.le_of_ble_eq_true rfl) ⟨by decide, by decide⟩ ⟨by decide, by decide⟩ ?_
  refine x_astore_n C dX3_changed_5 (by decide) rfl rfl ?_
  refine x_aload_n C dX3_changed_6 rfl ?_
  refine x_ifnull C dX3_changed_7 ?_
  refine x_aload_n C dX3_changed_10 rfl ?_
  refine x_cV1 C yo_X0_isLeaf m_X3_85 rfl rfl (by first | assumption | exact Nat.one_pos) (c_X0_isLeaf l D dA base n ad I J R hT k hk) dX3_changed_11 rfl rfl (Nat.le_of_ble_eq_true rfl) ⟨by decide, by decide⟩ ⟨by decide, by decide⟩ ?_
  refine x_if_ne C 28 dX3_changed_14 (by decide) (fun h14 => ?_) (fun h14 => ?_)
  · skip
    refine x_aload_n C dX3_changed_28 rfl ?_
    refine x_getI C f_X3_45 rfl (by first | assumption | exact Nat.one_pos) dX3_changed_29 ?_
    exact x_iret C (po_r (by simp_all)) dX3_changed_32
  · skip
    refine x_aload_n C dX3_changed_17 rfl ?_
    refine x_getI C f_X3_139 rfl (by first | assumption | exact Nat.one_pos) dX3_changed_18 ?_
    refine x_if_ne C 28 dX3_changed_21 (by decide) (fun h21 => ?_) (fun h21 => ?_)
    · skip
      refine x_aload_n C dX3_changed_28 rfl ?_
      refine x_getI C f_X3_45 rfl (by first | assumption | exact Nat.one_pos) dX3_changed_29 ?_
      exact x_iret C (po_r (by simp_all)) dX3_changed_32
    · skip
      refine x_iconst C (-1) (by decide) dX3_changed_24 ?_
      refine x_goto C 32 dX3_changed_25 (by decide) ?_
      exact x_iret C (po_r (by simp_all)) dX3_changed_32

set_option maxRecDepth 100000 in
set_option maxHeartbeats 4000000 in
theorem c_X3_changed_out (l : Launch) (D : va_G) (dA : Nat → ClassId) (base n : Nat) (ad : Fa) (I : Fi) (J : Fj) (R : Fr) (hT : ST n R) (hG : KG n I R) (x : Int32) (hx : x < 0 ∨ nI n ≤ x)  : CT l D dA base yX3_changed cX3_changed 3 (some .int) 1 0 0 [.ref (ad 0 0), .int x] ad (Nn n) I J R (po (some (.int (-1))) ad (Nn n) I J R) := by
  refine CT.of 1 (L0 := [some (.ref (ad 0 0)), some (.int x), none]) (by decide +kernel) rfl (Nat.le_of_ble_eq_true rfl) ?_
  intro p e s m args below meth c C
  refine x_aload_n C dX3_changed_0 rfl ?_
  refine x_iload_n C dX3_changed_1 rfl ?_
  refine x_cV1 C yo_X3_keyAt m_X3_56 rfl rfl (by first | assumption | exact Nat.one_pos) (c_X3_keyAt_out l D dA base n ad I J R hT hG x hx) dX3_changed_2 rfl rfl (Nat.le_of_ble_eq_true rfl) ⟨by decide, by decide⟩ ⟨by decide, by decide⟩ ?_
  refine x_astore_nN C dX3_changed_5 (by decide) rfl rfl ?_
  refine x_aload_nN C dX3_changed_6 rfl ?_
  refine x_ifnullN C 24 dX3_changed_7 (by decide) ?_
  refine x_iconst C (-1) (by decide) dX3_changed_24 ?_
  refine x_goto C 32 dX3_changed_25 (by decide) ?_
  exact x_iret C (po_i _ _ _ _ _ _) dX3_changed_32

set_option maxRecDepth 100000 in
set_option maxHeartbeats 4000000 in
theorem c_X3_asked_in (l : Launch) (D : va_G) (dA : Nat → ClassId) (base n : Nat) (ad : Fa) (I : Fi) (J : Fj) (R : Fr) (hT : ST n R) (hG : KG n I R) (k : Nat) (hk : k < n) (j a : Nat) (ha : I 4 k 13 = nI a) (ha8 : a ≤ 8) (hj : j < a) (hq : ¬ I 4 k 10 = 0) : CT l D dA base yX3_asked cX3_asked 4 (some .int) 1 0 0 [.ref (ad 0 0), .int (nI k), .int (nI j)] ad (Nn n) I J R (po (some (.int (I 6 k j))) ad (Nn n) I J R) := by
  refine CT.of 1 (L0 := [some (.ref (ad 0 0)), some (.int (nI k)), some (.int (nI j)), none]) (by decide +kernel) rfl (Nat.le_of_ble_eq_true rfl) ?_
  intro p e s m args below meth c C
  refine x_aload_n C dX3_asked_0 rfl ?_
  refine x_iload_n C dX3_asked_1 rfl ?_
  refine x_cV1 C yo_X3_keyAt m_X3_56 rfl rfl (by first | assumption | exact Nat.one_pos) (c_X3_keyAt_in l D dA base n ad I J R hT hG k hk) dX3_asked_2 rfl rfl (Nat.le_of_ble_eq_true rfl) ⟨by decide, by decide⟩ ⟨by decide, by decide⟩ ?_
  refine x_astore_n C dX3_asked_5 (by decide) rfl rfl ?_
  refine x_aload_n C dX3_asked_6 rfl ?_
  refine x_ifnull C dX3_asked_7 ?_
  refine x_aload_n C dX3_asked_10 rfl ?_
  refine x_getI C f_X3_139 rfl (by first | assumption | exact Nat.one_pos) dX3_asked_11 ?_
  refine x_if_ne C 21 dX3_asked_14 (by decide) (fun h14 => ?_) (fun h14 => ?_)
  · skip
    refine x_aload_n C dX3_asked_21 rfl ?_
    refine x_iload_n C dX3_asked_22 rfl ?_
    refine x_cV1 C yo_X0_askedPlace m_X3_142 rfl rfl (by first | assumption | exact Nat.one_pos) (c_X0_askedPlace_in l D dA base n ad I J R hT k j a hk ha hj ha8) dX3_asked_23 rfl rfl (Nat.le_of_ble_eq_true rfl) ⟨by decide, by decide⟩ ⟨by decide, by decide⟩ ?_
    exact x_iret C (po_i _ _ _ _ _ _) dX3_asked_26
  · skip
    exact absurd h14 hq

set_option maxRecDepth 100000 in
set_option maxHeartbeats 4000000 in
theorem c_X3_asked_far (l : Launch) (D : va_G) (dA : Nat → ClassId) (base n : Nat) (ad : Fa) (I : Fi) (J : Fj) (R : Fr) (hT : ST n R) (hG : KG n I R) (k : Nat) (hk : k < n) (y : Int32) (a : Nat) (ha : I 4 k 13 = nI a) (hy : y < 0 ∨ nI a ≤ y) (hq : ¬ I 4 k 10 = 0) : CT l D dA base yX3_asked cX3_asked 4 (some .int) 1 0 0 [.ref (ad 0 0), .int (nI k), .int y] ad (Nn n) I J R (po (some (.int (-1))) ad (Nn n) I J R) := by
  refine CT.of 1 (L0 := [some (.ref (ad 0 0)), some (.int (nI k)), some (.int y), none]) (by decide +kernel) rfl (Nat.le_of_ble_eq_true rfl) ?_
  intro p e s m args below meth c C
  refine x_aload_n C dX3_asked_0 rfl ?_
  refine x_iload_n C dX3_asked_1 rfl ?_
  refine x_cV1 C yo_X3_keyAt m_X3_56 rfl rfl (by first | assumption | exact Nat.one_pos) (c_X3_keyAt_in l D dA base n ad I J R hT hG k hk) dX3_asked_2 rfl rfl (Nat.le_of_ble_eq_true rfl) ⟨by decide, by decide⟩ ⟨by decide, by decide⟩ ?_
  refine x_astore_n C dX3_asked_5 (by decide) rfl rfl ?_
  refine x_aload_n C dX3_asked_6 rfl ?_
  refine x_ifnull C dX3_asked_7 ?_
  refine x_aload_n C dX3_asked_10 rfl ?_
  refine x_getI C f_X3_139 rfl (by first | assumption | exact Nat.one_pos) dX3_asked_11 ?_
  refine x_if_ne C 21 dX3_asked_14 (by decide) (fun h14 => ?_) (fun h14 => ?_)
  · skip
    refine x_aload_n C dX3_asked_21 rfl ?_
    refine x_iload_n C dX3_asked_22 rfl ?_
    refine x_cV1 C yo_X0_askedPlace m_X3_142 rfl rfl (by first | assumption | exact Nat.one_pos) (c_X0_askedPlace_out l D dA base n ad I J R hT k a y hk ha hy) dX3_asked_23 rfl rfl (Nat.le_of_ble_eq_true rfl) ⟨by decide, by decide⟩ ⟨by decide, by decide⟩ ?_
    exact x_iret C (po_i _ _ _ _ _ _) dX3_asked_26
  · skip
    exact absurd h14 hq

set_option maxRecDepth 100000 in
set_option maxHeartbeats 4000000 in
theorem c_X3_asked_not (l : Launch) (D : va_G) (dA : Nat → ClassId) (base n : Nat) (ad : Fa) (I : Fi) (J : Fj) (R : Fr) (hT : ST n R) (hG : KG n I R) (k : Nat) (hk : k < n) (y : Int32) (hq : I 4 k 10 = 0) : CT l D dA base yX3_asked cX3_asked 4 (some .int) 1 0 0 [.ref (ad 0 0), .int (nI k), .int y] ad (Nn n) I J R (po (some (.int (-1))) ad (Nn n) I J R) := by
  refine CT.of 1 (L0 := [some (.ref (ad 0 0)), some (.int (nI k)), some (.int y), none]) (by decide +kernel) rfl (Nat.le_of_ble_eq_true rfl) ?_
  intro p e s m args below meth c C
  refine x_aload_n C dX3_asked_0 rfl ?_
  refine x_iload_n C dX3_asked_1 rfl ?_
  refine x_cV1 C yo_X3_keyAt m_X3_56 rfl rfl (by first | assumption | exact Nat.one_pos) (c_X3_keyAt_in l D dA base n ad I J R hT hG k hk) dX3_asked_2 rfl rfl (Nat.le_of_ble_eq_true rfl) ⟨by decide, by decide⟩ ⟨by decide, by decide⟩ ?_
  refine x_astore_n C dX3_asked_5 (by decide) rfl rfl ?_
  refine x_aload_n C dX3_asked_6 rfl ?_
  refine x_ifnull C dX3_asked_7 ?_
  refine x_aload_n C dX3_asked_10 rfl ?_
  refine x_getI C f_X3_139 rfl (by first | assumption | exact Nat.one_pos) dX3_asked_11 ?_
  refine x_if_ne C 21 dX3_asked_14 (by decide) (fun h14 => ?_) (fun h14 => ?_)
  · skip
    exact absurd hq h14
  · skip
    refine x_iconst C (-1) (by decide) dX3_asked_17 ?_
    refine x_goto C 26 dX3_asked_18 (by decide) ?_
    exact x_iret C (po_i _ _ _ _ _ _) dX3_asked_26

set_option maxRecDepth 100000 in
set_option maxHeartbeats 4000000 in
theorem c_X3_asked_out (l : Launch) (D : va_G) (dA : Nat → ClassId) (base n : Nat) (ad : Fa) (I : Fi) (J : Fj) (R : Fr) (hT : ST n R) (hG : KG n I R) (x : Int32) (hx : x < 0 ∨ nI n ≤ x) (y : Int32) : CT l D dA base yX3_asked cX3_asked 4 (some .int) 1 0 0 [.ref (ad 0 0), .int x, .int y] ad (Nn n) I J R (po (some (.int (-1))) ad (Nn n) I J R) := by
  refine CT.of 1 (L0 := [some (.ref (ad 0 0)), some (.int x), some (.int y), none]) (by decide +kernel) rfl (Nat.le_of_ble_eq_true rfl) ?_
  intro p e s m args below meth c C
  refine x_aload_n C dX3_asked_0 rfl ?_
  refine x_iload_n C dX3_asked_1 rfl ?_
  refine x_cV1 C yo_X3_keyAt m_X3_56 rfl rfl (by first | assumption | exact Nat.one_pos) (c_X3_keyAt_out l D dA base n ad I J R hT hG x hx) dX3_asked_2 rfl rfl (Nat.le_of_ble_eq_true rfl) ⟨by decide, by decide⟩ ⟨by decide, by decide⟩ ?_
  refine x_astore_nN C dX3_asked_5 (by decide) rfl rfl ?_
  refine x_aload_nN C dX3_asked_6 rfl ?_
  refine x_ifnullN C 17 dX3_asked_7 (by decide) ?_
  refine x_iconst C (-1) (by decide) dX3_asked_17 ?_
  refine x_goto C 26 dX3_asked_18 (by decide) ?_
  exact x_iret C (po_i _ _ _ _ _ _) dX3_asked_26

set_option maxRecDepth 100000 in
set_option maxHeartbeats 4000000 in
theorem c_X3_drop_yes (l : Launch) (D : va_G) (dA : Nat → ClassId) (base n : Nat) (ad : Fa) (I : Fi) (J : Fj) (R : Fr) (hT : ST n R) (hG : KG n I R) (k : Nat) (hk : k < n) (zs : Nat → Nat) (hP : PL n I R zs) (hq : ¬ I 4 k 10 = 0) : CT l D dA base yX3_drop cX3_drop 3 (some .boolean) 4 0 0 [.ref (ad 0 0), .int (nI k)] ad (Nn n) I J R (po (some (.int 1)) ad (Nn n) (epS R zs (up3 I 4 k 10 0) 5) J R) := by
  refine CT.of 1 (L0 := [some (.ref (ad 0 0)), some (.int (nI k)), none]) (by decide +kernel) rfl (Nat.le_of_ble_eq_true rfl) ?_
  intro p e s m args below meth c C
  refine x_aload_n C dX3_drop_0 rfl ?_
  refine x_iload_n C dX3_drop_1 rfl ?_
  refine x_cV1 C yo_X3_keyAt m_X3_56 rfl rfl (by first | assumption | exact Nat.one_pos) (c_X3_keyAt_in l D dA base n ad I J R hT hG k hk) dX3_drop_2 rfl rfl (Nat.le_of_ble_eq_true rfl) ⟨by decide, by decide⟩ ⟨by decide, by decide⟩ ?_
  refine x_astore_n C dX3_drop_5 (by decide) rfl rfl ?_
  refine x_aload_n C dX3_drop_6 rfl ?_
  refine x_ifnull C dX3_drop_7 ?_
  refine x_aload_n C dX3_drop_10 rfl ?_
  refine x_getI C f_X3_139 rfl (by first | assumption | exact Nat.one_pos) dX3_drop_11 ?_
  refine x_if_ne C 19 dX3_drop_14 (by decide) (fun h14 => ?_) (fun h14 => ?_)
  · skip
    refine x_aload_n C dX3_drop_19 rfl ?_
    refine x_iconst C 0 (by decide) dX3_drop_20 ?_
    refine x_putZ C g_X3_139 rfl (by first | assumption | exact Nat.one_pos) (by first | exact Or.inl rfl | exact Or.inr rfl | assumption) dX3_drop_21 ?_
    refine x_aload_n C dX3_drop_24 rfl ?_
    refine x_cV1 C yo_X3_emptyPiles m_X3_114 rfl rfl (by first | assumption | exact Nat.one_pos) (c_X3_emptyPiles l D dA base n ad (up3 I 4 k 10 0) J R hT (hG.up (by decide) (by decide)) zs (hP.up (by decide))) dX3_drop_25 rfl rfl (Nat.le_of_ble_eq_true rfl) ⟨by decide, by decide⟩ ⟨by decide, by decide⟩ ?_
    refine x_pop C rfl dX3_drop_28 ?_
    refine x_iconst C 1 (by decide) dX3_drop_29 ?_
    exact x_zret C (by first | exact Or.inl rfl | exact Or.inr rfl | assumption) (po_i _ _ _ _ _ _) dX3_drop_30
  · skip
    exact absurd h14 hq

set_option maxRecDepth 100000 in
set_option maxHeartbeats 4000000 in
theorem c_X3_drop_no (l : Launch) (D : va_G) (dA : Nat → ClassId) (base n : Nat) (ad : Fa) (I : Fi) (J : Fj) (R : Fr) (hT : ST n R) (hG : KG n I R) (k : Nat) (hk : k < n) (hq : I 4 k 10 = 0) : CT l D dA base yX3_drop cX3_drop 3 (some .boolean) 4 0 0 [.ref (ad 0 0), .int (nI k)] ad (Nn n) I J R (po (some (.int 0)) ad (Nn n) I J R) := by
  refine CT.of 1 (L0 := [some (.ref (ad 0 0)), some (.int (nI k)), none]) (by decide +kernel) rfl (Nat.le_of_ble_eq_true rfl) ?_
  intro p e s m args below meth c C
  refine x_aload_n C dX3_drop_0 rfl ?_
  refine x_iload_n C dX3_drop_1 rfl ?_
  refine x_cV1 C yo_X3_keyAt m_X3_56 rfl rfl (by first | assumption | exact Nat.one_pos) (c_X3_keyAt_in l D dA base n ad I J R hT hG k hk) dX3_drop_2 rfl rfl (Nat.le_of_ble_eq_true rfl) ⟨by decide, by decide⟩ ⟨by decide, by decide⟩ ?_
  refine x_astore_n C dX3_drop_5 (by decide) rfl rfl ?_
  refine x_aload_n C dX3_drop_6 rfl ?_
  refine x_ifnull C dX3_drop_7 ?_
  refine x_aload_n C dX3_drop_10 rfl ?_
  refine x_getI C f_X3_139 rfl (by first | assumption | exact Nat.one_pos) dX3_drop_11 ?_
  refine x_if_ne C 19 dX3_drop_14 (by decide) (fun h14 => ?_) (fun h14 => ?_)
  · skip
    exact absurd hq h14
  · skip
    refine x_iconst C 0 (by decide) dX3_drop_17 ?_
    exact x_zret C (by first | exact Or.inl rfl | exact Or.inr rfl | assumption) (po_i _ _ _ _ _ _) dX3_drop_18

set_option maxRecDepth 100000 in
set_option maxHeartbeats 4000000 in
theorem c_X3_drop_out (l : Launch) (D : va_G) (dA : Nat → ClassId) (base n : Nat) (ad : Fa) (I : Fi) (J : Fj) (R : Fr) (hT : ST n R) (hG : KG n I R) (x : Int32) (hx : x < 0 ∨ nI n ≤ x)  : CT l D dA base yX3_drop cX3_drop 3 (some .boolean) 4 0 0 [.ref (ad 0 0), .int x] ad (Nn n) I J R (po (some (.int 0)) ad (Nn n) I J R) := by
  refine CT.of 1 (L0 := [some (.ref (ad 0 0)), some (.int x), none]) (by decide +kernel) rfl (Nat.le_of_ble_eq_true rfl) ?_
  intro p e s m args below meth c C
  refine x_aload_n C dX3_drop_0 rfl ?_
  refine x_iload_n C dX3_drop_1 rfl ?_
  refine x_cV1 C yo_X3_keyAt m_X3_56 rfl rfl (by first | assumption | exact Nat.one_pos) (c_X3_keyAt_out l D dA base n ad I J R hT hG x hx) dX3_drop_2 rfl rfl (Nat.le_of_ble_eq_true rfl) ⟨by decide, by decide⟩ ⟨by decide, by decide⟩ ?_
  refine x_astore_nN C dX3_drop_5 (by decide) rfl rfl ?_
  refine x_aload_nN C dX3_drop_6 rfl ?_
  refine x_ifnullN C 17 dX3_drop_7 (by decide) ?_
  refine x_iconst C 0 (by decide) dX3_drop_17 ?_
  exact x_zret C (by first | exact Or.inl rfl | exact Or.inr rfl | assumption) (po_i _ _ _ _ _ _) dX3_drop_18

set_option maxRecDepth 100000 in
set_option maxHeartbeats 4000000 in
theorem c_X3_cancel (l : Launch) (D : va_G) (dA : Nat → ClassId) (base n : Nat) (ad : Fa) (I : Fi) (J : Fj) (R : Fr) (hT : ST n R) (hG : KG n I R) (zs : Nat → Nat) (hP : PL n I R zs)  : CT l D dA base yX3_cancel cX3_cancel 1 (some .int) 4 0 0 [.ref (ad 0 0)] ad (Nn n) I J R (po (some (.int (nI (esum zs 5)))) ad (Nn n) (epS R zs I 5) J R) := by
  refine CT.of 0 (L0 := [some (.ref (ad 0 0))]) (by decide +kernel) rfl (Nat.le_of_ble_eq_true rfl) ?_
  intro p e s m args below meth c C
  refine x_aload_n C dX3_cancel_0 rfl ?_
  refine x_cV1 C yo_X3_emptyPiles m_X3_114 rfl rfl (by first | assumption | exact Nat.one_pos) (c_X3_emptyPiles l D dA base n ad I J R hT hG zs hP) dX3_cancel_1 rfl rfl (Nat.le_of_ble_eq_true rfl) ⟨by decide, by decide⟩ ⟨by decide, by decide⟩ ?_
  exact x_iret C (po_i _ _ _ _ _ _) dX3_cancel_4

set_option maxRecDepth 100000 in
set_option maxHeartbeats 4000000 in
theorem c_X3_ring_in (l : Launch) (D : va_G) (dA : Nat → ClassId) (base n : Nat) (ad : Fa) (I : Fi) (J : Fj) (R : Fr) (hT : ST n R) (k z : Nat) (hz : I 0 0 5 = nI z) (hz40 : z ≤ 40) (hk : k < z) : CT l D dA base yX3_ring cX3_ring 2 (some .int) 0 0 0 [.ref (ad 0 0), .int (nI k)] ad (Nn n) I J R (po (some (.int (I 3 0 k))) ad (Nn n) I J R) := by
  refine CT.of 0 (L0 := [some (.ref (ad 0 0)), some (.int (nI k))]) (by decide +kernel) rfl (Nat.le_of_ble_eq_true rfl) ?_
  intro p e s m args below meth c C
  refine x_iload_n C dX3_ring_0 rfl ?_
  refine x_if_lt C 12 dX3_ring_1 (by decide) (fun h1 => ?_) (fun h1 => ?_)
  · skip
    exact absurd h1 (nI_pos (by omega))
  · skip
    refine x_iload_n C dX3_ring_4 rfl ?_
    refine x_aload_n C dX3_ring_5 rfl ?_
    refine x_getI C f_X3_82 rfl (by first | assumption | exact Nat.one_pos) dX3_ring_6 ?_
    refine x_icmp_lt C 16 dX3_ring_9 (by decide) (fun h9 => ?_) (fun h9 => ?_)
    · skip
      refine x_aload_n C dX3_ring_16 rfl ?_
      refine x_getF C hT f_X3_22 rfl rfl (by first | assumption | exact Nat.one_pos) dX3_ring_17 ?_
      refine x_iload_n C dX3_ring_20 rfl ?_
      refine x_ialdN C (k) rfl rfl rfl (by first | assumption | exact Nat.one_pos) (by omega) (by decide) dX3_ring_21 ?_
      exact x_iret C (po_i _ _ _ _ _ _) dX3_ring_22
    · skip
      rw [hz] at h9
      exact absurd (nI_lt hk (by omega)) h9

set_option maxRecDepth 100000 in
set_option maxHeartbeats 4000000 in
theorem c_X3_ring_out (l : Launch) (D : va_G) (dA : Nat → ClassId) (base n : Nat) (ad : Fa) (I : Fi) (J : Fj) (R : Fr) (hT : ST n R) (x : Int32) (z : Nat) (hz : I 0 0 5 = nI z) (hx : x < 0 ∨ nI z ≤ x) : CT l D dA base yX3_ring cX3_ring 2 (some .int) 0 0 0 [.ref (ad 0 0), .int x] ad (Nn n) I J R (po (some (.int (-1))) ad (Nn n) I J R) := by
  refine CT.of 0 (L0 := [some (.ref (ad 0 0)), some (.int x)]) (by decide +kernel) rfl (Nat.le_of_ble_eq_true rfl) ?_
  intro p e s m args below meth c C
  refine x_iload_n C dX3_ring_0 rfl ?_
  refine x_if_lt C 12 dX3_ring_1 (by decide) (fun h1 => ?_) (fun h1 => ?_)
  · skip
    refine x_iconst C (-1) (by decide) dX3_ring_12 ?_
    refine x_goto C 22 dX3_ring_13 (by decide) ?_
    exact x_iret C (po_i _ _ _ _ _ _) dX3_ring_22
  · skip
    refine x_iload_n C dX3_ring_4 rfl ?_
    refine x_aload_n C dX3_ring_5 rfl ?_
    refine x_getI C f_X3_82 rfl (by first | assumption | exact Nat.one_pos) dX3_ring_6 ?_
    refine x_icmp_lt C 16 dX3_ring_9 (by decide) (fun h9 => ?_) (fun h9 => ?_)
    · skip
      rw [hz] at h9
      exact absurd h9 (hx.elim (fun q => absurd q h1) (fun q => Int32.not_lt.mpr q))
    · skip
      refine x_iconst C (-1) (by decide) dX3_ring_12 ?_
      refine x_goto C 22 dX3_ring_13 (by decide) ?_
      exact x_iret C (po_i _ _ _ _ _ _) dX3_ring_22

set_option maxRecDepth 100000 in
set_option maxHeartbeats 4000000 in
theorem c_X3_change_out (l : Launch) (D : va_G) (dA : Nat → ClassId) (base n : Nat) (ad : Fa) (I : Fi) (J : Fj) (R : Fr) (hT : ST n R) (hG : KG n I R) (x : Int32) (hx : x < 0 ∨ nI n ≤ x) (v : Int64)  : CT l D dA base yX3_change cX3_change 5 (some .int) 5 0 0 [.ref (ad 0 0), .int x, .long v] ad (Nn n) I J R (po (some (.int (-1))) ad (Nn n) I J R) := by
  refine CT.of 1 (L0 := [some (.ref (ad 0 0)), some (.int x), some (.long v), none, none]) (by decide +kernel) rfl (Nat.le_of_ble_eq_true rfl) ?_
  intro p e s m args below meth c C
  refine x_aload_n C dX3_change_0 rfl ?_
  refine x_iload_n C dX3_change_1 rfl ?_
  refine x_cV1 C yo_X3_keyAt m_X3_56 rfl rfl (by first | assumption | exact Nat.one_pos) (c_X3_keyAt_out l D dA base n ad I J R hT hG x hx) dX3_change_2 rfl rfl (Nat.le_of_ble_eq_true rfl) ⟨by decide, by decide⟩ ⟨by decide, by decide⟩ ?_
  refine x_astoreN C dX3_change_5 (by decide) rfl rfl ?_
  refine x_aloadN C dX3_change_7 rfl ?_
  refine x_ifnullN C 20 dX3_change_9 (by decide) ?_
  refine x_iconst C (-1) (by decide) dX3_change_20 ?_
  exact x_iret C (po_i _ _ _ _ _ _) dX3_change_21

set_option maxRecDepth 100000 in
set_option maxHeartbeats 4000000 in
theorem c_X3_change_no (l : Launch) (D : va_G) (dA : Nat → ClassId) (base n : Nat) (ad : Fa) (I : Fi) (J : Fj) (R : Fr) (hT : ST n R) (hG : KG n I R) (k : Nat) (hk : k < n) (v : Int64) (hf : ¬ I 4 k 1 = -1) : CT l D dA base yX3_change cX3_change 5 (some .int) 5 0 0 [.ref (ad 0 0), .int (nI k), .long v] ad (Nn n) I J R (po (some (.int (-1))) ad (Nn n) I J R) := by
  refine CT.of 1 (L0 := [some (.ref (ad 0 0)), some (.int (nI k)), some (.long v), none, none]) (by decide +kernel) rfl (Nat.le_of_ble_eq_true rfl) ?_
  intro p e s m args below meth c C
  refine x_aload_n C dX3_change_0 rfl ?_
  refine x_iload_n C dX3_change_1 rfl ?_
  refine x_cV1 C yo_X3_keyAt m_X3_56 rfl rfl (by first | assumption | exact Nat.one_pos) (c_X3_keyAt_in l D dA base n ad I J R hT hG k hk) dX3_change_2 rfl rfl (Nat.le_of_ble_eq_true rfl) ⟨by decide, by decide⟩ ⟨by decide, by decide⟩ ?_
  refine x_astore C dX3_change_5 (by decide) rfl rfl ?_
  refine x_aload C dX3_change_7 rfl ?_
  refine x_ifnull C dX3_change_9 ?_
  refine x_aload C dX3_change_12 rfl ?_
  refine x_cV1 C yo_X0_isLeaf m_X3_85 rfl rfl (by first | assumption | exact Nat.one_pos) (c_X0_isLeaf l D dA base n ad I J R hT k hk) dX3_change_14 rfl rfl (Nat.le_of_ble_eq_true rfl) ⟨by decide, by decide⟩ ⟨by decide, by decide⟩ ?_
  refine x_if_ne C 22 dX3_change_17 (by decide) (fun h17 => ?_) (fun h17 => ?_)
  · skip
    rw [if_neg hf] at h17
    exact absurd rfl h17
  · skip
    refine x_iconst C (-1) (by decide) dX3_change_20 ?_
    exact x_iret C (po_i _ _ _ _ _ _) dX3_change_21

set_option maxRecDepth 100000 in
set_option maxHeartbeats 4000000 in
theorem c_X3_change_same (l : Launch) (D : va_G) (dA : Nat → ClassId) (base n : Nat) (ad : Fa) (I : Fi) (J : Fj) (R : Fr) (hT : ST n R) (hG : KG n I R) (k : Nat) (hk : k < n) (v : Int64) (hf : I 4 k 1 = -1) (hv : J 4 k 8 = v) : CT l D dA base yX3_change cX3_change 5 (some .int) 5 0 0 [.ref (ad 0 0), .int (nI k), .long v] ad (Nn n) I J R (po (some (.int (I 0 0 2))) ad (Nn n) I J R) := by
  refine CT.of 1 (L0 := [some (.ref (ad 0 0)), some (.int (nI k)), some (.long v), none, none]) (by decide +kernel) rfl (Nat.le_of_ble_eq_true rfl) ?_
  intro p e s m args below meth c C
  refine x_aload_n C dX3_change_0 rfl ?_
  refine x_iload_n C dX3_change_1 rfl ?_
  refine x_cV1 C yo_X3_keyAt m_X3_56 rfl rfl (by first | assumption | exact Nat.one_pos) (c_X3_keyAt_in l D dA base n ad I J R hT hG k hk) dX3_change_2 rfl rfl (Nat.le_of_ble_eq_true rfl) ⟨by decide, by decide⟩ ⟨by decide, by decide⟩ ?_
  refine x_astore C dX3_change_5 (by decide) rfl rfl ?_
  refine x_aload C dX3_change_7 rfl ?_
  refine x_ifnull C dX3_change_9 ?_
  refine x_aload C dX3_change_12 rfl ?_
  refine x_cV1 C yo_X0_isLeaf m_X3_85 rfl rfl (by first | assumption | exact Nat.one_pos) (c_X0_isLeaf l D dA base n ad I J R hT k hk) dX3_change_14 rfl rfl (Nat.le_of_ble_eq_true rfl) ⟨by decide, by decide⟩ ⟨by decide, by decide⟩ ?_
  refine x_if_ne C 22 dX3_change_17 (by decide) (fun h17 => ?_) (fun h17 => ?_)
  · skip
    refine x_aload C dX3_change_22 rfl ?_
    refine x_getJ C f_X3_38 rfl (by first | assumption | exact Nat.one_pos) dX3_change_24 ?_
    refine x_lload_n C dX3_change_27 rfl ?_
    refine x_lcmp C dX3_change_28 ?_
    refine x_if_eq C 51 dX3_change_29 (by decide) (fun h29 => ?_) (fun h29 => ?_)
    · skip
      refine x_aload_n C dX3_change_51 rfl ?_
      refine x_getI C f_X3_42 rfl (by first | assumption | exact Nat.one_pos) dX3_change_52 ?_
      exact x_iret C (po_i _ _ _ _ _ _) dX3_change_55
    · skip
      rw [lg_cmp_eq] at h29
      exact absurd hv h29
  · skip
    rw [if_pos hf] at h17
    exact absurd h17 (by decide)

theorem epS_o (R : Fr) (zs : Nat → Nat) (I : Fi) {c b d : Nat} (h1 : ¬ (c = 4 ∧ d = 16)) (h2 : ¬ (c = 9 ∧ d = 1)) : ∀ (t : Nat), epS R zs I t c b d = I c b d
  | 0 => rfl
  | t + 1 => by rw [epS, tka_o _ _ _ _ _ _ _ h1 (fun z => h2 ⟨z.1, z.2.2⟩), epS_o R zs I h1 h2 t]
theorem nvI_v (R : Fr) (zs : Nat → Nat) (I : Fi) : nvI R zs I 0 0 2 = I 0 0 2 + 1 := by rw [nvI, epS_o _ _ _ (by decide) (by decide), up3_s]
set_option maxRecDepth 100000 in
set_option maxHeartbeats 4000000 in
theorem c_X3_change_yes (l : Launch) (D : va_G) (dA : Nat → ClassId) (base n : Nat) (ad : Fa) (I : Fi) (J : Fj) (R : Fr) (hT : ST n R) (hG : KG n I R) (k : Nat) (hk : k < n) (v : Int64) (zs : Nat → Nat) (hP : PL n I R zs) (hf : I 4 k 1 = -1) (hv : ¬ J 4 k 8 = v) : CT l D dA base yX3_change cX3_change 5 (some .int) 5 0 0 [.ref (ad 0 0), .int (nI k), .long v] ad (Nn n) I J R (po (some (.int (I 0 0 2 + 1))) ad (Nn n) (up3 (nvI R zs I) 4 k 9 (I 0 0 2 + 1)) (up3 J 4 k 8 v) R) := by
  refine CT.of 1 (L0 := [some (.ref (ad 0 0)), some (.int (nI k)), some (.long v), none, none]) (by decide +kernel) rfl (Nat.le_of_ble_eq_true rfl) ?_
  intro p e s m args below meth c C
  refine x_aload_n C dX3_change_0 rfl ?_
  refine x_iload_n C dX3_change_1 rfl ?_
  refine x_cV1 C yo_X3_keyAt m_X3_56 rfl rfl (by first | assumption | exact Nat.one_pos) (c_X3_keyAt_in l D dA base n ad I J R hT hG k hk) dX3_change_2 rfl rfl (Nat.le_of_ble_eq_true rfl) ⟨by decide, by decide⟩ ⟨by decide, by decide⟩ ?_
  refine x_astore C dX3_change_5 (by decide) rfl rfl ?_
  refine x_aload C dX3_change_7 rfl ?_
  refine x_ifnull C dX3_change_9 ?_
  refine x_aload C dX3_change_12 rfl ?_
  refine x_cV1 C yo_X0_isLeaf m_X3_85 rfl rfl (by first | assumption | exact Nat.one_pos) (c_X0_isLeaf l D dA base n ad I J R hT k hk) dX3_change_14 rfl rfl (Nat.le_of_ble_eq_true rfl) ⟨by decide, by decide⟩ ⟨by decide, by decide⟩ ?_
  refine x_if_ne C 22 dX3_change_17 (by decide) (fun h17 => ?_) (fun h17 => ?_)
  · skip
    refine x_aload C dX3_change_22 rfl ?_
    refine x_getJ C f_X3_38 rfl (by first | assumption | exact Nat.one_pos) dX3_change_24 ?_
    refine x_lload_n C dX3_change_27 rfl ?_
    refine x_lcmp C dX3_change_28 ?_
    refine x_if_eq C 51 dX3_change_29 (by decide) (fun h29 => ?_) (fun h29 => ?_)
    · skip
      rw [lg_cmp_eq] at h29
      exact absurd h29 hv
    · skip
      refine x_aload_n C dX3_change_32 rfl ?_
      refine x_cV0 C yo_X3_goToNextVersion m_X3_76 rfl rfl (by first | assumption | exact Nat.one_pos) (c_X3_goToNextVersion l D dA base n ad I J R hT hG zs hP) dX3_change_33 rfl rfl (Nat.le_of_ble_eq_true rfl) ⟨by decide, by decide⟩ ⟨by decide, by decide⟩ ?_
      refine x_aload C dX3_change_36 rfl ?_
      refine x_lload_n C dX3_change_38 rfl ?_
      refine x_putJ C g_X3_38 rfl (by first | assumption | exact Nat.one_pos) dX3_change_39 ?_
      refine x_aload C dX3_change_42 rfl ?_
      refine x_aload_n C dX3_change_44 rfl ?_
      refine x_getI C f_X3_42 rfl (by first | assumption | exact Nat.one_pos) dX3_change_45 ?_
      refine x_putI C g_X3_45 rfl (by first | assumption | exact Nat.one_pos) dX3_change_48 ?_
      refine x_aload_n C dX3_change_51 rfl ?_
      refine x_getI C f_X3_42 rfl (by first | assumption | exact Nat.one_pos) dX3_change_52 ?_
      exact x_iret C (⟨by rw [up3_c _ _ _ _ _ (by decide), nvI_v], rfl, rfl, by rw [nvI_v], rfl, rfl⟩) dX3_change_55
  · skip
    rw [if_pos hf] at h17
    exact absurd h17 (by decide)

set_option maxRecDepth 100000 in
set_option maxHeartbeats 4000000 in
theorem c_X3_spoil_out (l : Launch) (D : va_G) (dA : Nat → ClassId) (base n : Nat) (ad : Fa) (I : Fi) (J : Fj) (R : Fr) (hT : ST n R) (hG : KG n I R) (x : Int32) (hx : x < 0 ∨ nI n ≤ x) (b : Int32) (hb : b = 0 ∨ b = 1)  : CT l D dA base yX3_spoil cX3_spoil 4 (some .int) 5 0 0 [.ref (ad 0 0), .int x, .int b] ad (Nn n) I J R (po (some (.int (-1))) ad (Nn n) I J R) := by
  refine CT.of 1 (L0 := [some (.ref (ad 0 0)), some (.int x), some (.int b), none]) (by decide +kernel) rfl (Nat.le_of_ble_eq_true rfl) ?_
  intro p e s m args below meth c C
  refine x_aload_n C dX3_spoil_0 rfl ?_
  refine x_iload_n C dX3_spoil_1 rfl ?_
  refine x_cV1 C yo_X3_keyWithFunction m_X3_52 rfl rfl (by first | assumption | exact Nat.one_pos) (c_X3_kwf_out l D dA base n ad I J R hT hG x hx) dX3_spoil_2 rfl rfl (Nat.le_of_ble_eq_true rfl) ⟨by decide, by decide⟩ ⟨by decide, by decide⟩ ?_
  refine x_astore_nN C dX3_spoil_5 (by decide) rfl rfl ?_
  refine x_aload_nN C dX3_spoil_6 rfl ?_
  refine x_ifnonnullN C dX3_spoil_7 ?_
  refine x_iconst C (-1) (by decide) dX3_spoil_10 ?_
  exact x_iret C (po_i _ _ _ _ _ _) dX3_spoil_11

set_option maxRecDepth 100000 in
set_option maxHeartbeats 4000000 in
theorem c_X3_spoil_leaf (l : Launch) (D : va_G) (dA : Nat → ClassId) (base n : Nat) (ad : Fa) (I : Fi) (J : Fj) (R : Fr) (hT : ST n R) (hG : KG n I R) (k : Nat) (hk : k < n) (b : Int32) (hb : b = 0 ∨ b = 1) (hf : I 4 k 1 = -1) : CT l D dA base yX3_spoil cX3_spoil 4 (some .int) 5 0 0 [.ref (ad 0 0), .int (nI k), .int b] ad (Nn n) I J R (po (some (.int (-1))) ad (Nn n) I J R) := by
  refine CT.of 1 (L0 := [some (.ref (ad 0 0)), some (.int (nI k)), some (.int b), none]) (by decide +kernel) rfl (Nat.le_of_ble_eq_true rfl) ?_
  intro p e s m args below meth c C
  refine x_aload_n C dX3_spoil_0 rfl ?_
  refine x_iload_n C dX3_spoil_1 rfl ?_
  refine x_cV1 C yo_X3_keyWithFunction m_X3_52 rfl rfl (by first | assumption | exact Nat.one_pos) (c_X3_kwf_leaf l D dA base n ad I J R hT hG k hk hf) dX3_spoil_2 rfl rfl (Nat.le_of_ble_eq_true rfl) ⟨by decide, by decide⟩ ⟨by decide, by decide⟩ ?_
  refine x_astore_nN C dX3_spoil_5 (by decide) rfl rfl ?_
  refine x_aload_nN C dX3_spoil_6 rfl ?_
  refine x_ifnonnullN C dX3_spoil_7 ?_
  refine x_iconst C (-1) (by decide) dX3_spoil_10 ?_
  exact x_iret C (po_i _ _ _ _ _ _) dX3_spoil_11

set_option maxRecDepth 100000 in
set_option maxHeartbeats 4000000 in
theorem c_X3_spoil_same (l : Launch) (D : va_G) (dA : Nat → ClassId) (base n : Nat) (ad : Fa) (I : Fi) (J : Fj) (R : Fr) (hT : ST n R) (hG : KG n I R) (k : Nat) (hk : k < n) (b : Int32) (hb : b = 0 ∨ b = 1) (hf : ¬ I 4 k 1 = -1) (he : I 4 k 5 = b) : CT l D dA base yX3_spoil cX3_spoil 4 (some .int) 5 0 0 [.ref (ad 0 0), .int (nI k), .int b] ad (Nn n) I J R (po (some (.int (I 0 0 2))) ad (Nn n) I J R) := by
  refine CT.of 1 (L0 := [some (.ref (ad 0 0)), some (.int (nI k)), some (.int b), none]) (by decide +kernel) rfl (Nat.le_of_ble_eq_true rfl) ?_
  intro p e s m args below meth c C
  refine x_aload_n C dX3_spoil_0 rfl ?_
  refine x_iload_n C dX3_spoil_1 rfl ?_
  refine x_cV1 C yo_X3_keyWithFunction m_X3_52 rfl rfl (by first | assumption | exact Nat.one_pos) (c_X3_kwf_in l D dA base n ad I J R hT hG k hk hf) dX3_spoil_2 rfl rfl (Nat.le_of_ble_eq_true rfl) ⟨by decide, by decide⟩ ⟨by decide, by decide⟩ ?_
  refine x_astore_n C dX3_spoil_5 (by decide) rfl rfl ?_
  refine x_aload_n C dX3_spoil_6 rfl ?_
  refine x_ifnonnull C 12 dX3_spoil_7 (by decide) ?_
  refine x_aload_n C dX3_spoil_12 rfl ?_
  refine x_getI C f_X3_89 rfl (by first | assumption | exact Nat.one_pos) dX3_spoil_13 ?_
  refine x_iload_n C dX3_spoil_16 rfl ?_
  refine x_icmp_eq C 37 dX3_spoil_17 (by decide) (fun h17 => ?_) (fun h17 => ?_)
  · skip
    refine x_aload_n C dX3_spoil_37 rfl ?_
    refine x_getI C f_X3_42 rfl (by first | assumption | exact Nat.one_pos) dX3_spoil_38 ?_
    exact x_iret C (po_i _ _ _ _ _ _) dX3_spoil_41
  · skip
    exact absurd he h17

set_option maxRecDepth 100000 in
set_option maxHeartbeats 4000000 in
theorem c_X3_spoil_yes (l : Launch) (D : va_G) (dA : Nat → ClassId) (base n : Nat) (ad : Fa) (I : Fi) (J : Fj) (R : Fr) (hT : ST n R) (hG : KG n I R) (k : Nat) (hk : k < n) (b : Int32) (hb : b = 0 ∨ b = 1) (zs : Nat → Nat) (hP : PL n I R zs) (hf : ¬ I 4 k 1 = -1) (he : ¬ I 4 k 5 = b) : CT l D dA base yX3_spoil cX3_spoil 4 (some .int) 5 0 0 [.ref (ad 0 0), .int (nI k), .int b] ad (Nn n) I J R (po (some (.int (I 0 0 2 + 1))) ad (Nn n) (up3 (up3 (nvI R zs I) 4 k 5 b) 4 k 6 (I 0 0 2 + 1)) J R) := by
  refine CT.of 1 (L0 := [some (.ref (ad 0 0)), some (.int (nI k)), some (.int b), none]) (by decide +kernel) rfl (Nat.le_of_ble_eq_true rfl) ?_
  intro p e s m args below meth c C
  refine x_aload_n C dX3_spoil_0 rfl ?_
  refine x_iload_n C dX3_spoil_1 rfl ?_
  refine x_cV1 C yo_X3_keyWithFunction m_X3_52 rfl rfl (by first | assumption | exact Nat.one_pos) (c_X3_kwf_in l D dA base n ad I J R hT hG k hk hf) dX3_spoil_2 rfl rfl (Nat.le_of_ble_eq_true rfl) ⟨by decide, by decide⟩ ⟨by decide, by decide⟩ ?_
  refine x_astore_n C dX3_spoil_5 (by decide) rfl rfl ?_
  refine x_aload_n C dX3_spoil_6 rfl ?_
  refine x_ifnonnull C 12 dX3_spoil_7 (by decide) ?_
  refine x_aload_n C dX3_spoil_12 rfl ?_
  refine x_getI C f_X3_89 rfl (by first | assumption | exact Nat.one_pos) dX3_spoil_13 ?_
  try simp only [up3_r, Nat.reduceEqDiff, and_false, false_and, and_self, and_true, true_and, reduceIte]
  refine x_iload_n C dX3_spoil_16 rfl ?_
  refine x_icmp_eq C 37 dX3_spoil_17 (by decide) (fun h17 => ?_) (fun h17 => ?_)
  · skip
    exact absurd h17 he
  · skip
    refine x_aload_n C dX3_spoil_20 rfl ?_
    refine x_cV0 C yo_X3_goToNextVersion m_X3_76 rfl rfl (by first | assumption | exact Nat.one_pos) (c_X3_goToNextVersion l D dA base n ad I J R hT hG zs hP) dX3_spoil_21 rfl rfl (Nat.le_of_ble_eq_true rfl) ⟨by decide, by decide⟩ ⟨by decide, by decide⟩ ?_
    refine x_aload_n C dX3_spoil_24 rfl ?_
    refine x_iload_n C dX3_spoil_25 rfl ?_
    refine x_putZ C g_X3_89 rfl (by first | assumption | exact Nat.one_pos) hb dX3_spoil_26 ?_
    refine x_aload_n C dX3_spoil_29 rfl ?_
    refine x_aload_n C dX3_spoil_30 rfl ?_
    refine x_getI C f_X3_42 rfl (by first | assumption | exact Nat.one_pos) dX3_spoil_31 ?_
    try simp only [up3_r, Nat.reduceEqDiff, and_false, false_and, and_self, and_true, true_and, reduceIte]
    refine x_putI C g_X3_79 rfl (by first | assumption | exact Nat.one_pos) dX3_spoil_34 ?_
    refine x_aload_n C dX3_spoil_37 rfl ?_
    refine x_getI C f_X3_42 rfl (by first | assumption | exact Nat.one_pos) dX3_spoil_38 ?_
    try simp only [up3_r, Nat.reduceEqDiff, and_false, false_and, and_self, and_true, true_and, reduceIte]
    exact x_iret C (⟨by rw [nvI_v], rfl, rfl, by rw [nvI_v], rfl, rfl⟩) dX3_spoil_41

set_option maxRecDepth 100000 in
set_option maxHeartbeats 4000000 in
theorem c_X3_begin_key (l : Launch) (D : va_G) (dA : Nat → ClassId) (base n : Nat) (ad : Fa) (I : Fi) (J : Fj) (R : Fr) (hT : ST n R) (hG : KG n I R) (x : Int32) (hx : x < 0 ∨ nI n ≤ x) (w : Int32) : CT l D dA base yX3_begin cX3_begin 4 (some .int) 3 0 0 [.ref (ad 0 0), .int w, .int x] ad (Nn n) I J R (po (some (.int (-1))) ad (Nn n) I J R) := by
  refine CT.of 1 (L0 := [some (.ref (ad 0 0)), some (.int w), some (.int x), none]) (by decide +kernel) rfl (Nat.le_of_ble_eq_true rfl) ?_
  intro p e s m args below meth c C
  refine x_aload_n C dX3_begin_0 rfl ?_
  refine x_iload_n C dX3_begin_1 rfl ?_
  refine x_cV1 C yo_X3_keyAt m_X3_56 rfl rfl (by first | assumption | exact Nat.one_pos) (c_X3_keyAt_out l D dA base n ad I J R hT hG x hx) dX3_begin_2 rfl rfl (Nat.le_of_ble_eq_true rfl) ⟨by decide, by decide⟩ ⟨by decide, by decide⟩ ?_
  refine x_astore_nN C dX3_begin_5 (by decide) rfl rfl ?_
  refine x_iload_n C dX3_begin_6 rfl ?_
  refine x_cS1 C yo_X3_isWorker rfl m_X3_93 (c_X3_isWorker l D dA base n ad I J R w) dX3_begin_7 rfl rfl (Nat.le_of_ble_eq_true rfl) ⟨by decide, by decide⟩ ⟨by decide, by decide⟩ ?_
  refine x_if_eq C 29 dX3_begin_10 (by decide) (fun h10 => ?_) (fun h10 => ?_)
  · skip
    refine x_iconst C (-1) (by decide) dX3_begin_29 ?_
    exact x_iret C (po_i _ _ _ _ _ _) dX3_begin_30
  · skip
    refine x_aload_nN C dX3_begin_13 rfl ?_
    refine x_ifnullN C 29 dX3_begin_14 (by decide) ?_
    refine x_iconst C (-1) (by decide) dX3_begin_29 ?_
    exact x_iret C (po_i _ _ _ _ _ _) dX3_begin_30

set_option maxRecDepth 100000 in
set_option maxHeartbeats 4000000 in
theorem c_X3_begin_wkr (l : Launch) (D : va_G) (dA : Nat → ClassId) (base n : Nat) (ad : Fa) (I : Fi) (J : Fj) (R : Fr) (hT : ST n R) (hG : KG n I R) (k : Nat) (hk : k < n) (w : Int32) (hw : ¬ (0 ≤ w ∧ w < 4)) : CT l D dA base yX3_begin cX3_begin 4 (some .int) 3 0 0 [.ref (ad 0 0), .int w, .int (nI k)] ad (Nn n) I J R (po (some (.int (-1))) ad (Nn n) I J R) := by
  refine CT.of 1 (L0 := [some (.ref (ad 0 0)), some (.int w), some (.int (nI k)), none]) (by decide +kernel) rfl (Nat.le_of_ble_eq_true rfl) ?_
  intro p e s m args below meth c C
  refine x_aload_n C dX3_begin_0 rfl ?_
  refine x_iload_n C dX3_begin_1 rfl ?_
  refine x_cV1 C yo_X3_keyAt m_X3_56 rfl rfl (by first | assumption | exact Nat.one_pos) (c_X3_keyAt_in l D dA base n ad I J R hT hG k hk) dX3_begin_2 rfl rfl (Nat.le_of_ble_eq_true rfl) ⟨by decide, by decide⟩ ⟨by decide, by decide⟩ ?_
  refine x_astore_n C dX3_begin_5 (by decide) rfl rfl ?_
  refine x_iload_n C dX3_begin_6 rfl ?_
  refine x_cS1 C yo_X3_isWorker rfl m_X3_93 (c_X3_isWorker l D dA base n ad I J R w) dX3_begin_7 rfl rfl (Nat.le_of_ble_eq_true rfl) ⟨by decide, by decide⟩ ⟨by decide, by decide⟩ ?_
  refine x_if_eq C 29 dX3_begin_10 (by decide) (fun h10 => ?_) (fun h10 => ?_)
  · skip
    refine x_iconst C (-1) (by decide) dX3_begin_29 ?_
    exact x_iret C (po_i _ _ _ _ _ _) dX3_begin_30
  · skip
    rw [if_neg hw] at h10
    exact absurd rfl h10

set_option maxRecDepth 100000 in
set_option maxHeartbeats 4000000 in
theorem c_X3_begin_full (l : Launch) (D : va_G) (dA : Nat → ClassId) (base n : Nat) (ad : Fa) (I : Fi) (J : Fj) (R : Fr) (hT : ST n R) (hG : KG n I R) (k : Nat) (hk : k < n) (w z : Nat) (hw : w < 4) (hs : I 9 w 1 = nI z) (hz : z ≤ 40) (hz0 : 0 < z) : CT l D dA base yX3_begin cX3_begin 4 (some .int) 3 0 0 [.ref (ad 0 0), .int (nI w), .int (nI k)] ad (Nn n) I J R (po (some (.int (-1))) ad (Nn n) I J R) := by
  refine CT.of 1 (L0 := [some (.ref (ad 0 0)), some (.int (nI w)), some (.int (nI k)), none]) (by decide +kernel) rfl (Nat.le_of_ble_eq_true rfl) ?_
  intro p e s m args below meth c C
  have hw5 : w < 5 := by omega
  refine x_aload_n C dX3_begin_0 rfl ?_
  refine x_iload_n C dX3_begin_1 rfl ?_
  refine x_cV1 C yo_X3_keyAt m_X3_56 rfl rfl (by first | assumption | exact Nat.one_pos) (c_X3_keyAt_in l D dA base n ad I J R hT hG k hk) dX3_begin_2 rfl rfl (Nat.le_of_ble_eq_true rfl) ⟨by decide, by decide⟩ ⟨by decide, by decide⟩ ?_
  refine x_astore_n C dX3_begin_5 (by decide) rfl rfl ?_
  refine x_iload_n C dX3_begin_6 rfl ?_
  refine x_cS1 C yo_X3_isWorker rfl m_X3_93 (c_X3_isWorker l D dA base n ad I J R (nI w)) dX3_begin_7 rfl rfl (Nat.le_of_ble_eq_true rfl) ⟨by decide, by decide⟩ ⟨by decide, by decide⟩ ?_
  refine x_if_eq C 29 dX3_begin_10 (by decide) (fun h10 => ?_) (fun h10 => ?_)
  · skip
    rw [if_pos ⟨nI_pos' (by omega), nI_lt (b := 4) hw (by decide)⟩] at h10
    exact absurd h10 (by decide)
  · skip
    refine x_aload_n C dX3_begin_13 rfl ?_
    refine x_ifnull C dX3_begin_14 ?_
    refine x_aload_n C dX3_begin_17 rfl ?_
    refine x_getF C hT f_X3_17 rfl rfl (by first | assumption | exact Nat.one_pos) dX3_begin_18 ?_
    refine x_iload_n C dX3_begin_21 rfl ?_
    refine x_aaldS C (w) rfl rfl rfl rfl (by first | assumption | exact Nat.one_pos) (by omega) (by decide) (hG.2.2.2.1 w (by omega)) dX3_begin_22 ?_
    refine x_getI C f_X3_97 rfl (by first | assumption | exact Nat.one_pos) dX3_begin_23 ?_
    refine x_if_le C 31 dX3_begin_26 (by decide) (fun h26 => ?_) (fun h26 => ?_)
    · skip
      rw [hs] at h26
      exact absurd h26 (nI_nle hz0 (by omega))
    · skip
      refine x_iconst C (-1) (by decide) dX3_begin_29 ?_
      exact x_iret C (po_i _ _ _ _ _ _) dX3_begin_30

set_option maxRecDepth 100000 in
set_option maxHeartbeats 4000000 in
theorem c_X3_begin_sure (l : Launch) (D : va_G) (dA : Nat → ClassId) (base n : Nat) (ad : Fa) (I : Fi) (J : Fj) (R : Fr) (hT : ST n R) (hG : KG n I R) (k : Nat) (hk : k < n) (w : Nat) (hw : w < 4) (hs : I 9 w 1 = nI 0) (hsu : sure I k = true) : CT l D dA base yX3_begin cX3_begin 4 (some .int) 3 0 0 [.ref (ad 0 0), .int (nI w), .int (nI k)] ad (Nn n) I J R (po (some (.int 0)) ad (Nn n) I J R) := by
  refine CT.of 1 (L0 := [some (.ref (ad 0 0)), some (.int (nI w)), some (.int (nI k)), none]) (by decide +kernel) rfl (Nat.le_of_ble_eq_true rfl) ?_
  intro p e s m args below meth c C
  have hw5 : w < 5 := by omega
  refine x_aload_n C dX3_begin_0 rfl ?_
  refine x_iload_n C dX3_begin_1 rfl ?_
  refine x_cV1 C yo_X3_keyAt m_X3_56 rfl rfl (by first | assumption | exact Nat.one_pos) (c_X3_keyAt_in l D dA base n ad I J R hT hG k hk) dX3_begin_2 rfl rfl (Nat.le_of_ble_eq_true rfl) ⟨by decide, by decide⟩ ⟨by decide, by decide⟩ ?_
  refine x_astore_n C dX3_begin_5 (by decide) rfl rfl ?_
  refine x_iload_n C dX3_begin_6 rfl ?_
  refine x_cS1 C yo_X3_isWorker rfl m_X3_93 (c_X3_isWorker l D dA base n ad I J R (nI w)) dX3_begin_7 rfl rfl (Nat.le_of_ble_eq_true rfl) ⟨by decide, by decide⟩ ⟨by decide, by decide⟩ ?_
  refine x_if_eq C 29 dX3_begin_10 (by decide) (fun h10 => ?_) (fun h10 => ?_)
  · skip
    rw [if_pos ⟨nI_pos' (by omega), nI_lt (b := 4) hw (by decide)⟩] at h10
    exact absurd h10 (by decide)
  · skip
    refine x_aload_n C dX3_begin_13 rfl ?_
    refine x_ifnull C dX3_begin_14 ?_
    refine x_aload_n C dX3_begin_17 rfl ?_
    refine x_getF C hT f_X3_17 rfl rfl (by first | assumption | exact Nat.one_pos) dX3_begin_18 ?_
    refine x_iload_n C dX3_begin_21 rfl ?_
    refine x_aaldS C (w) rfl rfl rfl rfl (by first | assumption | exact Nat.one_pos) (by omega) (by decide) (hG.2.2.2.1 w (by omega)) dX3_begin_22 ?_
    refine x_getI C f_X3_97 rfl (by first | assumption | exact Nat.one_pos) dX3_begin_23 ?_
    refine x_if_le C 31 dX3_begin_26 (by decide) (fun h26 => ?_) (fun h26 => ?_)
    · skip
      refine x_aload_n C dX3_begin_31 rfl ?_
      refine x_aload_n C dX3_begin_32 rfl ?_
      refine x_cV1 C yo_X3_isSure m_X3_100 rfl rfl (by first | assumption | exact Nat.one_pos) (c_X3_isSure l D dA base n ad I J R hT k hk) dX3_begin_33 rfl rfl (Nat.le_of_ble_eq_true rfl) ⟨by decide, by decide⟩ ⟨by decide, by decide⟩ ?_
      refine x_if_eq C 41 dX3_begin_36 (by decide) (fun h36 => ?_) (fun h36 => ?_)
      · skip
        rw [hsu] at h36
        exact absurd h36 (by decide)
      · skip
        refine x_iconst C 0 (by decide) dX3_begin_39 ?_
        exact x_iret C (po_i _ _ _ _ _ _) dX3_begin_40
    · skip
      rw [hs] at h26
      exact absurd (by decide) h26

set_option maxRecDepth 100000 in
set_option maxHeartbeats 4000000 in
theorem c_X3_begin_has (l : Launch) (D : va_G) (dA : Nat → ClassId) (base n : Nat) (ad : Fa) (I : Fi) (J : Fj) (R : Fr) (hT : ST n R) (hG : KG n I R) (k : Nat) (hk : k < n) (w : Nat) (hw : w < 4) (hs : I 9 w 1 = nI 0) (hsu : sure I k = false) (hq : ¬ I 4 k 16 = 0) : CT l D dA base yX3_begin cX3_begin 4 (some .int) 3 0 0 [.ref (ad 0 0), .int (nI w), .int (nI k)] ad (Nn n) I J R (po (some (.int (-2))) ad (Nn n) I J R) := by
  refine CT.of 1 (L0 := [some (.ref (ad 0 0)), some (.int (nI w)), some (.int (nI k)), none]) (by decide +kernel) rfl (Nat.le_of_ble_eq_true rfl) ?_
  intro p e s m args below meth c C
  have hw5 : w < 5 := by omega
  refine x_aload_n C dX3_begin_0 rfl ?_
  refine x_iload_n C dX3_begin_1 rfl ?_
  refine x_cV1 C yo_X3_keyAt m_X3_56 rfl rfl (by first | assumption | exact Nat.one_pos) (c_X3_keyAt_in l D dA base n ad I J R hT hG k hk) dX3_begin_2 rfl rfl (Nat.le_of_ble_eq_true rfl) ⟨by decide, by decide⟩ ⟨by decide, by decide⟩ ?_
  refine x_astore_n C dX3_begin_5 (by decide) rfl rfl ?_
  refine x_iload_n C dX3_begin_6 rfl ?_
  refine x_cS1 C yo_X3_isWorker rfl m_X3_93 (c_X3_isWorker l D dA base n ad I J R (nI w)) dX3_begin_7 rfl rfl (Nat.le_of_ble_eq_true rfl) ⟨by decide, by decide⟩ ⟨by decide, by decide⟩ ?_
  refine x_if_eq C 29 dX3_begin_10 (by decide) (fun h10 => ?_) (fun h10 => ?_)
  · skip
    rw [if_pos ⟨nI_pos' (by omega), nI_lt (b := 4) hw (by decide)⟩] at h10
    exact absurd h10 (by decide)
  · skip
    refine x_aload_n C dX3_begin_13 rfl ?_
    refine x_ifnull C dX3_begin_14 ?_
    refine x_aload_n C dX3_begin_17 rfl ?_
    refine x_getF C hT f_X3_17 rfl rfl (by first | assumption | exact Nat.one_pos) dX3_begin_18 ?_
    refine x_iload_n C dX3_begin_21 rfl ?_
    refine x_aaldS C (w) rfl rfl rfl rfl (by first | assumption | exact Nat.one_pos) (by omega) (by decide) (hG.2.2.2.1 w (by omega)) dX3_begin_22 ?_
    refine x_getI C f_X3_97 rfl (by first | assumption | exact Nat.one_pos) dX3_begin_23 ?_
    refine x_if_le C 31 dX3_begin_26 (by decide) (fun h26 => ?_) (fun h26 => ?_)
    · skip
      refine x_aload_n C dX3_begin_31 rfl ?_
      refine x_aload_n C dX3_begin_32 rfl ?_
      refine x_cV1 C yo_X3_isSure m_X3_100 rfl rfl (by first | assumption | exact Nat.one_pos) (c_X3_isSure l D dA base n ad I J R hT k hk) dX3_begin_33 rfl rfl (Nat.le_of_ble_eq_true rfl) ⟨by decide, by decide⟩ ⟨by decide, by decide⟩ ?_
      refine x_if_eq C 41 dX3_begin_36 (by decide) (fun h36 => ?_) (fun h36 => ?_)
      · skip
        refine x_aload_n C dX3_begin_41 rfl ?_
        refine x_getI C f_X3_103 rfl (by first | assumption | exact Nat.one_pos) dX3_begin_42 ?_
        refine x_if_eq C 51 dX3_begin_45 (by decide) (fun h45 => ?_) (fun h45 => ?_)
        · skip
          exact absurd h45 hq
        · skip
          refine x_bipush C (-2) (by decide) dX3_begin_48 ?_
          exact x_iret C (po_i _ _ _ _ _ _) dX3_begin_50
      · skip
        rw [hsu] at h36
        exact absurd rfl h36
    · skip
      rw [hs] at h26
      exact absurd (by decide) h26

set_option maxRecDepth 100000 in
set_option maxHeartbeats 4000000 in
theorem c_X3_begin_yes (l : Launch) (D : va_G) (dA : Nat → ClassId) (base n : Nat) (ad : Fa) (I : Fi) (J : Fj) (R : Fr) (hT : ST n R) (hG : KG n I R) (k : Nat) (hk : k < n) (w : Nat) (hw : w < 4) (hs : I 9 w 1 = nI 0) (hsu : sure I k = false) (hq : I 4 k 16 = 0) : CT l D dA base yX3_begin cX3_begin 4 (some .int) 3 0 0 [.ref (ad 0 0), .int (nI w), .int (nI k)] ad (Nn n) I J R (po (some (.int 1)) ad (Nn n) (putI I w k 0) (up3 J 7 k 3 0) (up3 R 10 w 0 (some k))) := by
  refine CT.of 1 (L0 := [some (.ref (ad 0 0)), some (.int (nI w)), some (.int (nI k)), none]) (by decide +kernel) rfl (Nat.le_of_ble_eq_true rfl) ?_
  intro p e s m args below meth c C
  have hw5 : w < 5 := by omega
  refine x_aload_n C dX3_begin_0 rfl ?_
  refine x_iload_n C dX3_begin_1 rfl ?_
  refine x_cV1 C yo_X3_keyAt m_X3_56 rfl rfl (by first | assumption | exact Nat.one_pos) (c_X3_keyAt_in l D dA base n ad I J R hT hG k hk) dX3_begin_2 rfl rfl (Nat.le_of_ble_eq_true rfl) ⟨by decide, by decide⟩ ⟨by decide, by decide⟩ ?_
  refine x_astore_n C dX3_begin_5 (by decide) rfl rfl ?_
  refine x_iload_n C dX3_begin_6 rfl ?_
  refine x_cS1 C yo_X3_isWorker rfl m_X3_93 (c_X3_isWorker l D dA base n ad I J R (nI w)) dX3_begin_7 rfl rfl (Nat.le_of_ble_eq_true rfl) ⟨by decide, by decide⟩ ⟨by decide, by decide⟩ ?_
  refine x_if_eq C 29 dX3_begin_10 (by decide) (fun h10 => ?_) (fun h10 => ?_)
  · skip
    rw [if_pos ⟨nI_pos' (by omega), nI_lt (b := 4) hw (by decide)⟩] at h10
    exact absurd h10 (by decide)
  · skip
    refine x_aload_n C dX3_begin_13 rfl ?_
    refine x_ifnull C dX3_begin_14 ?_
    refine x_aload_n C dX3_begin_17 rfl ?_
    refine x_getF C hT f_X3_17 rfl rfl (by first | assumption | exact Nat.one_pos) dX3_begin_18 ?_
    refine x_iload_n C dX3_begin_21 rfl ?_
    refine x_aaldS C (w) rfl rfl rfl rfl (by first | assumption | exact Nat.one_pos) (by omega) (by decide) (hG.2.2.2.1 w (by omega)) dX3_begin_22 ?_
    refine x_getI C f_X3_97 rfl (by first | assumption | exact Nat.one_pos) dX3_begin_23 ?_
    refine x_if_le C 31 dX3_begin_26 (by decide) (fun h26 => ?_) (fun h26 => ?_)
    · skip
      refine x_aload_n C dX3_begin_31 rfl ?_
      refine x_aload_n C dX3_begin_32 rfl ?_
      refine x_cV1 C yo_X3_isSure m_X3_100 rfl rfl (by first | assumption | exact Nat.one_pos) (c_X3_isSure l D dA base n ad I J R hT k hk) dX3_begin_33 rfl rfl (Nat.le_of_ble_eq_true rfl) ⟨by decide, by decide⟩ ⟨by decide, by decide⟩ ?_
      refine x_if_eq C 41 dX3_begin_36 (by decide) (fun h36 => ?_) (fun h36 => ?_)
      · skip
        refine x_aload_n C dX3_begin_41 rfl ?_
        refine x_getI C f_X3_103 rfl (by first | assumption | exact Nat.one_pos) dX3_begin_42 ?_
        refine x_if_eq C 51 dX3_begin_45 (by decide) (fun h45 => ?_) (fun h45 => ?_)
        · skip
          refine x_aload_n C dX3_begin_51 rfl ?_
          refine x_getF C hT f_X3_17 rfl rfl (by first | assumption | exact Nat.one_pos) dX3_begin_52 ?_
          refine x_iload_n C dX3_begin_55 rfl ?_
          refine x_aaldS C (w) rfl rfl rfl rfl (by first | assumption | exact Nat.one_pos) hw5 (by decide) (hG.2.2.2.1 w hw5) dX3_begin_56 ?_
          refine x_aload_n C dX3_begin_57 rfl ?_
          refine x_cV0 C yo_X1_put m_X3_106 rfl rfl (by first | assumption | exact Nat.one_pos) (c_X1_put l D dA base n ad I J R hT w k 0 hw5 hk hs (by decide)) dX3_begin_58 rfl rfl (Nat.le_of_ble_eq_true rfl) ⟨by decide, by decide⟩ ⟨by decide, by decide⟩ ?_
          refine x_iconst C 1 (by decide) dX3_begin_61 ?_
          exact x_iret C (po_i _ _ _ _ _ _) dX3_begin_62
        · skip
          exact absurd hq h45
      · skip
        rw [hsu] at h36
        exact absurd rfl h36
    · skip
      rw [hs] at h26
      exact absurd (by decide) h26

set_option maxRecDepth 100000 in
set_option maxHeartbeats 4000000 in
theorem c_X3_step_no (l : Launch) (D : va_G) (dA : Nat → ClassId) (base n : Nat) (ad : Fa) (I : Fi) (J : Fj) (R : Fr) (hT : ST n R) (w : Int32) (hw : ¬ (0 ≤ w ∧ w < 4)) : CT l D dA base yX3_step cX3_step 2 (some .int) 6 0 0 [.ref (ad 0 0), .int w] ad (Nn n) I J R (po (some (.int (-1))) ad (Nn n) I J R) := by
  refine CT.of 0 (L0 := [some (.ref (ad 0 0)), some (.int w)]) (by decide +kernel) rfl (Nat.le_of_ble_eq_true rfl) ?_
  intro p e s m args below meth c C
  refine x_iload_n C dX3_step_0 rfl ?_
  refine x_cS1 C yo_X3_isWorker rfl m_X3_93 (c_X3_isWorker l D dA base n ad I J R w) dX3_step_1 rfl rfl (Nat.le_of_ble_eq_true rfl) ⟨by decide, by decide⟩ ⟨by decide, by decide⟩ ?_
  refine x_if_eq C 20 dX3_step_4 (by decide) (fun h4 => ?_) (fun h4 => ?_)
  · skip
    refine x_iconst C (-1) (by decide) dX3_step_20 ?_
    exact x_iret C (po_i _ _ _ _ _ _) dX3_step_21
  · skip
    rw [if_neg hw] at h4
    exact absurd rfl h4

set_option maxRecDepth 100000 in
set_option maxHeartbeats 4000000 in
theorem c_X3_step_yes (l : Launch) (D : va_G) (dA : Nat → ClassId) (base n : Nat) (ad : Fa) (I : Fi) (J : Fj) (R : Fr) (hT : ST n R) (hG : KG n I R) (w : Nat) (hw : w < 4) (x : Int32) (I1 : Fi) (J1 : Fj) (R1 : Fr) (hM : CT l D dA base yX3_goOn cX3_goOn 3 (some .int) 5 0 0 [.ref (ad 0 0), .ref (ad 9 w)] ad (Nn n) I J R (po (some (.int x)) ad (Nn n) I1 J1 R1)) : CT l D dA base yX3_step cX3_step 2 (some .int) 6 0 0 [.ref (ad 0 0), .int (nI w)] ad (Nn n) I J R (po (some (.int x)) ad (Nn n) I1 J1 R1) := by
  refine CT.of 0 (L0 := [some (.ref (ad 0 0)), some (.int (nI w))]) (by decide +kernel) rfl (Nat.le_of_ble_eq_true rfl) ?_
  intro p e s m args below meth c C
  have hw5 : w < 5 := by omega
  refine x_iload_n C dX3_step_0 rfl ?_
  refine x_cS1 C yo_X3_isWorker rfl m_X3_93 (c_X3_isWorker l D dA base n ad I J R (nI w)) dX3_step_1 rfl rfl (Nat.le_of_ble_eq_true rfl) ⟨by decide, by decide⟩ ⟨by decide, by decide⟩ ?_
  refine x_if_eq C 20 dX3_step_4 (by decide) (fun h4 => ?_) (fun h4 => ?_)
  · skip
    rw [if_pos ⟨nI_pos' (by omega), nI_lt (b := 4) hw (by decide)⟩] at h4
    exact absurd h4 (by decide)
  · skip
    refine x_aload_n C dX3_step_7 rfl ?_
    refine x_aload_n C dX3_step_8 rfl ?_
    refine x_getF C hT f_X3_17 rfl rfl (by first | assumption | exact Nat.one_pos) dX3_step_9 ?_
    refine x_iload_n C dX3_step_12 rfl ?_
    refine x_aaldS C (w) rfl rfl rfl rfl (by first | assumption | exact Nat.one_pos) hw5 (by decide) (hG.2.2.2.1 w hw5) dX3_step_13 ?_
    refine x_cV1 C yo_X3_goOn m_X3_110 rfl rfl (by first | assumption | exact Nat.one_pos) (hM) dX3_step_14 rfl rfl (Nat.le_of_ble_eq_true rfl) ⟨by decide, by decide⟩ ⟨by decide, by decide⟩ ?_
    refine x_goto C 21 dX3_step_17 (by decide) ?_
    exact x_iret C (po_i _ _ _ _ _ _) dX3_step_21

set_option maxRecDepth 100000 in
set_option maxHeartbeats 4000000 in
theorem c_X3_run_out (l : Launch) (D : va_G) (dA : Nat → ClassId) (base n : Nat) (ad : Fa) (I : Fi) (J : Fj) (R : Fr) (hT : ST n R) (hG : KG n I R) (x : Int32) (hx : x < 0 ∨ nI n ≤ x)  : CT l D dA base yX3_run cX3_run 3 (some .int) 7 0 0 [.ref (ad 0 0), .int x] ad (Nn n) I J R (po (some (.int (-1))) ad (Nn n) I J R) := by
  refine CT.of 1 (L0 := [some (.ref (ad 0 0)), some (.int x), none]) (by decide +kernel) rfl (Nat.le_of_ble_eq_true rfl) ?_
  intro p e s m args below meth c C
  refine x_aload_n C dX3_run_0 rfl ?_
  refine x_iload_n C dX3_run_1 rfl ?_
  refine x_cV1 C yo_X3_keyAt m_X3_56 rfl rfl (by first | assumption | exact Nat.one_pos) (c_X3_keyAt_out l D dA base n ad I J R hT hG x hx) dX3_run_2 rfl rfl (Nat.le_of_ble_eq_true rfl) ⟨by decide, by decide⟩ ⟨by decide, by decide⟩ ?_
  refine x_astore_nN C dX3_run_5 (by decide) rfl rfl ?_
  refine x_aload_nN C dX3_run_6 rfl ?_
  refine x_ifnonnullN C dX3_run_7 ?_
  refine x_iconst C (-1) (by decide) dX3_run_10 ?_
  exact x_iret C (po_i _ _ _ _ _ _) dX3_run_11

set_option maxRecDepth 100000 in
set_option maxHeartbeats 4000000 in
theorem c_X3_run_sure (l : Launch) (D : va_G) (dA : Nat → ClassId) (base n : Nat) (ad : Fa) (I : Fi) (J : Fj) (R : Fr) (hT : ST n R) (hG : KG n I R) (k : Nat) (hk : k < n) (hsu : sure I k = true) : CT l D dA base yX3_run cX3_run 3 (some .int) 7 0 0 [.ref (ad 0 0), .int (nI k)] ad (Nn n) I J R (po (some (.int (I 4 k 7))) ad (Nn n) I J R) := by
  refine CT.of 1 (L0 := [some (.ref (ad 0 0)), some (.int (nI k)), none]) (by decide +kernel) rfl (Nat.le_of_ble_eq_true rfl) ?_
  intro p e s m args below meth c C
  refine x_aload_n C dX3_run_0 rfl ?_
  refine x_iload_n C dX3_run_1 rfl ?_
  refine x_cV1 C yo_X3_keyAt m_X3_56 rfl rfl (by first | assumption | exact Nat.one_pos) (c_X3_keyAt_in l D dA base n ad I J R hT hG k hk) dX3_run_2 rfl rfl (Nat.le_of_ble_eq_true rfl) ⟨by decide, by decide⟩ ⟨by decide, by decide⟩ ?_
  refine x_astore_n C dX3_run_5 (by decide) rfl rfl ?_
  refine x_aload_n C dX3_run_6 rfl ?_
  refine x_ifnonnull C 12 dX3_run_7 (by decide) ?_
  refine x_aload_n C dX3_run_12 rfl ?_
  refine x_aload_n C dX3_run_13 rfl ?_
  refine x_cV1 C yo_X3_isSure m_X3_100 rfl rfl (by first | assumption | exact Nat.one_pos) (c_X3_isSure l D dA base n ad I J R hT k hk) dX3_run_14 rfl rfl (Nat.le_of_ble_eq_true rfl) ⟨by decide, by decide⟩ ⟨by decide, by decide⟩ ?_
  refine x_if_eq C 25 dX3_run_17 (by decide) (fun h17 => ?_) (fun h17 => ?_)
  · skip
    rw [hsu] at h17
    exact absurd h17 (by decide)
  · skip
    refine x_aload_n C dX3_run_20 rfl ?_
    refine x_getI C f_X3_35 rfl (by first | assumption | exact Nat.one_pos) dX3_run_21 ?_
    exact x_iret C (po_i _ _ _ _ _ _) dX3_run_24

set_option maxRecDepth 100000 in
set_option maxHeartbeats 4000000 in
theorem c_X3_run_has (l : Launch) (D : va_G) (dA : Nat → ClassId) (base n : Nat) (ad : Fa) (I : Fi) (J : Fj) (R : Fr) (hT : ST n R) (hG : KG n I R) (k : Nat) (hk : k < n) (hsu : sure I k = false) (hq : ¬ I 4 k 16 = 0) : CT l D dA base yX3_run cX3_run 3 (some .int) 7 0 0 [.ref (ad 0 0), .int (nI k)] ad (Nn n) I J R (po (some (.int (-2))) ad (Nn n) I J R) := by
  refine CT.of 1 (L0 := [some (.ref (ad 0 0)), some (.int (nI k)), none]) (by decide +kernel) rfl (Nat.le_of_ble_eq_true rfl) ?_
  intro p e s m args below meth c C
  refine x_aload_n C dX3_run_0 rfl ?_
  refine x_iload_n C dX3_run_1 rfl ?_
  refine x_cV1 C yo_X3_keyAt m_X3_56 rfl rfl (by first | assumption | exact Nat.one_pos) (c_X3_keyAt_in l D dA base n ad I J R hT hG k hk) dX3_run_2 rfl rfl (Nat.le_of_ble_eq_true rfl) ⟨by decide, by decide⟩ ⟨by decide, by decide⟩ ?_
  refine x_astore_n C dX3_run_5 (by decide) rfl rfl ?_
  refine x_aload_n C dX3_run_6 rfl ?_
  refine x_ifnonnull C 12 dX3_run_7 (by decide) ?_
  refine x_aload_n C dX3_run_12 rfl ?_
  refine x_aload_n C dX3_run_13 rfl ?_
  refine x_cV1 C yo_X3_isSure m_X3_100 rfl rfl (by first | assumption | exact Nat.one_pos) (c_X3_isSure l D dA base n ad I J R hT k hk) dX3_run_14 rfl rfl (Nat.le_of_ble_eq_true rfl) ⟨by decide, by decide⟩ ⟨by decide, by decide⟩ ?_
  refine x_if_eq C 25 dX3_run_17 (by decide) (fun h17 => ?_) (fun h17 => ?_)
  · skip
    refine x_aload_n C dX3_run_25 rfl ?_
    refine x_getI C f_X3_103 rfl (by first | assumption | exact Nat.one_pos) dX3_run_26 ?_
    refine x_if_eq C 35 dX3_run_29 (by decide) (fun h29 => ?_) (fun h29 => ?_)
    · skip
      exact absurd h29 hq
    · skip
      refine x_bipush C (-2) (by decide) dX3_run_32 ?_
      exact x_iret C (po_i _ _ _ _ _ _) dX3_run_34
  · skip
    rw [hsu] at h17
    exact absurd rfl h17

set_option maxRecDepth 100000 in
set_option maxHeartbeats 4000000 in
theorem c_X3_run_go (l : Launch) (D : va_G) (dA : Nat → ClassId) (base n : Nat) (ad : Fa) (I : Fi) (J : Fj) (R : Fr) (hT : ST n R) (hG : KG n I R) (k : Nat) (hk : k < n) (hsu : sure I k = false) (hq : I 4 k 16 = 0) (x : Int32) (I1 : Fi) (J1 : Fj) (R1 : Fr) (hM : CT l D dA base yX3_runOnOwnPile cX3_runOnOwnPile 4 (some .int) 6 0 0 [.ref (ad 0 0), .ref (ad 4 k)] ad (Nn n) I J R (po (some (.int x)) ad (Nn n) I1 J1 R1)) : CT l D dA base yX3_run cX3_run 3 (some .int) 7 0 0 [.ref (ad 0 0), .int (nI k)] ad (Nn n) I J R (po (some (.int x)) ad (Nn n) I1 J1 R1) := by
  refine CT.of 1 (L0 := [some (.ref (ad 0 0)), some (.int (nI k)), none]) (by decide +kernel) rfl (Nat.le_of_ble_eq_true rfl) ?_
  intro p e s m args below meth c C
  refine x_aload_n C dX3_run_0 rfl ?_
  refine x_iload_n C dX3_run_1 rfl ?_
  refine x_cV1 C yo_X3_keyAt m_X3_56 rfl rfl (by first | assumption | exact Nat.one_pos) (c_X3_keyAt_in l D dA base n ad I J R hT hG k hk) dX3_run_2 rfl rfl (Nat.le_of_ble_eq_true rfl) ⟨by decide, by decide⟩ ⟨by decide, by decide⟩ ?_
  refine x_astore_n C dX3_run_5 (by decide) rfl rfl ?_
  refine x_aload_n C dX3_run_6 rfl ?_
  refine x_ifnonnull C 12 dX3_run_7 (by decide) ?_
  refine x_aload_n C dX3_run_12 rfl ?_
  refine x_aload_n C dX3_run_13 rfl ?_
  refine x_cV1 C yo_X3_isSure m_X3_100 rfl rfl (by first | assumption | exact Nat.one_pos) (c_X3_isSure l D dA base n ad I J R hT k hk) dX3_run_14 rfl rfl (Nat.le_of_ble_eq_true rfl) ⟨by decide, by decide⟩ ⟨by decide, by decide⟩ ?_
  refine x_if_eq C 25 dX3_run_17 (by decide) (fun h17 => ?_) (fun h17 => ?_)
  · skip
    refine x_aload_n C dX3_run_25 rfl ?_
    refine x_getI C f_X3_103 rfl (by first | assumption | exact Nat.one_pos) dX3_run_26 ?_
    refine x_if_eq C 35 dX3_run_29 (by decide) (fun h29 => ?_) (fun h29 => ?_)
    · skip
      refine x_aload_n C dX3_run_35 rfl ?_
      refine x_aload_n C dX3_run_36 rfl ?_
      refine x_cV1 C yo_X3_runOnOwnPile m_X3_118 rfl rfl (by first | assumption | exact Nat.one_pos) (hM) dX3_run_37 rfl rfl (Nat.le_of_ble_eq_true rfl) ⟨by decide, by decide⟩ ⟨by decide, by decide⟩ ?_
      exact x_iret C (po_i _ _ _ _ _ _) dX3_run_40
    · skip
      exact absurd hq h29
  · skip
    rw [hsu] at h17
    exact absurd rfl h17

set_option maxRecDepth 100000 in
set_option maxHeartbeats 4000000 in
theorem c_X3_asks_o1 (l : Launch) (D : va_G) (dA : Nat → ClassId) (base n : Nat) (ad : Fa) (I : Fi) (J : Fj) (R : Fr) (hT : ST n R) (hG : KG n I R) (x : Int32) (hx : x < 0 ∨ nI n ≤ x) (y : Int32) : CT l D dA base yX3_asks cX3_asks 5 (some .int) 5 0 0 [.ref (ad 0 0), .int x, .int y] ad (Nn n) I J R (po (some (.int (-1))) ad (Nn n) I J R) := by
  refine CT.of 2 (L0 := [some (.ref (ad 0 0)), some (.int x), some (.int y), none, none]) (by decide +kernel) rfl (Nat.le_of_ble_eq_true rfl) ?_
  intro p e s m args below meth c C
  refine x_aload_n C dX3_asks_0 rfl ?_
  refine x_iload_n C dX3_asks_1 rfl ?_
  refine x_cV1 C yo_X3_keyWithFunction m_X3_52 rfl rfl (by first | assumption | exact Nat.one_pos) (c_X3_kwf_out l D dA base n ad I J R hT hG x hx) dX3_asks_2 rfl rfl (Nat.le_of_ble_eq_true rfl) ⟨by decide, by decide⟩ ⟨by decide, by decide⟩ ?_
  refine x_astore_nN C dX3_asks_5 (by decide) rfl rfl ?_
  refine x_aload_n C dX3_asks_6 rfl ?_
  refine x_iload_n C dX3_asks_7 rfl ?_
  rcases pk_ix y (show n < 2 ^ 31 by have := hG.2.1; omega) with hy0 | hy0 | ⟨jj, hjj, rfl⟩
  · skip
    have hy : y < 0 ∨ nI n ≤ y := Or.inl hy0
    refine x_cV1 C yo_X3_keyAt m_X3_56 rfl rfl (by first | assumption | exact Nat.one_pos) (c_X3_keyAt_out l D dA base n ad I J R hT hG y hy) dX3_asks_8 rfl rfl (Nat.le_of_ble_eq_true rfl) ⟨by decide, by decide⟩ ⟨by decide, by decide⟩ ?_
    refine x_astoreN C dX3_asks_11 (by decide) rfl rfl ?_
    refine x_aload_nN C dX3_asks_13 rfl ?_
    refine x_ifnullN C 31 dX3_asks_14 (by decide) ?_
    refine x_iconst C (-1) (by decide) dX3_asks_31 ?_
    exact x_iret C (po_i _ _ _ _ _ _) dX3_asks_32
  · skip
    have hy : y < 0 ∨ nI n ≤ y := Or.inr hy0
    refine x_cV1 C yo_X3_keyAt m_X3_56 rfl rfl (by first | assumption | exact Nat.one_pos) (c_X3_keyAt_out l D dA base n ad I J R hT hG y hy) dX3_asks_8 rfl rfl (Nat.le_of_ble_eq_true rfl) ⟨by decide, by decide⟩ ⟨by decide, by decide⟩ ?_
    refine x_astoreN C dX3_asks_11 (by decide) rfl rfl ?_
    refine x_aload_nN C dX3_asks_13 rfl ?_
    refine x_ifnullN C 31 dX3_asks_14 (by decide) ?_
    refine x_iconst C (-1) (by decide) dX3_asks_31 ?_
    exact x_iret C (po_i _ _ _ _ _ _) dX3_asks_32
  · skip
    skip
    refine x_cV1 C yo_X3_keyAt m_X3_56 rfl rfl (by first | assumption | exact Nat.one_pos) (c_X3_keyAt_in l D dA base n ad I J R hT hG jj hjj) dX3_asks_8 rfl rfl (Nat.le_of_ble_eq_true rfl) ⟨by decide, by decide⟩ ⟨by decide, by decide⟩ ?_
    refine x_astore C dX3_asks_11 (by decide) rfl rfl ?_
    refine x_aload_nN C dX3_asks_13 rfl ?_
    refine x_ifnullN C 31 dX3_asks_14 (by decide) ?_
    refine x_iconst C (-1) (by decide) dX3_asks_31 ?_
    exact x_iret C (po_i _ _ _ _ _ _) dX3_asks_32

set_option maxRecDepth 100000 in
set_option maxHeartbeats 4000000 in
theorem c_X3_asks_leaf (l : Launch) (D : va_G) (dA : Nat → ClassId) (base n : Nat) (ad : Fa) (I : Fi) (J : Fj) (R : Fr) (hT : ST n R) (hG : KG n I R) (k : Nat) (hk : k < n) (hf : I 4 k 1 = -1) (y : Int32) : CT l D dA base yX3_asks cX3_asks 5 (some .int) 5 0 0 [.ref (ad 0 0), .int (nI k), .int y] ad (Nn n) I J R (po (some (.int (-1))) ad (Nn n) I J R) := by
  refine CT.of 2 (L0 := [some (.ref (ad 0 0)), some (.int (nI k)), some (.int y), none, none]) (by decide +kernel) rfl (Nat.le_of_ble_eq_true rfl) ?_
  intro p e s m args below meth c C
  refine x_aload_n C dX3_asks_0 rfl ?_
  refine x_iload_n C dX3_asks_1 rfl ?_
  refine x_cV1 C yo_X3_keyWithFunction m_X3_52 rfl rfl (by first | assumption | exact Nat.one_pos) (c_X3_kwf_leaf l D dA base n ad I J R hT hG k hk hf) dX3_asks_2 rfl rfl (Nat.le_of_ble_eq_true rfl) ⟨by decide, by decide⟩ ⟨by decide, by decide⟩ ?_
  refine x_astore_nN C dX3_asks_5 (by decide) rfl rfl ?_
  refine x_aload_n C dX3_asks_6 rfl ?_
  refine x_iload_n C dX3_asks_7 rfl ?_
  rcases pk_ix y (show n < 2 ^ 31 by have := hG.2.1; omega) with hy0 | hy0 | ⟨jj, hjj, rfl⟩
  · skip
    have hy : y < 0 ∨ nI n ≤ y := Or.inl hy0
    refine x_cV1 C yo_X3_keyAt m_X3_56 rfl rfl (by first | assumption | exact Nat.one_pos) (c_X3_keyAt_out l D dA base n ad I J R hT hG y hy) dX3_asks_8 rfl rfl (Nat.le_of_ble_eq_true rfl) ⟨by decide, by decide⟩ ⟨by decide, by decide⟩ ?_
    refine x_astoreN C dX3_asks_11 (by decide) rfl rfl ?_
    refine x_aload_nN C dX3_asks_13 rfl ?_
    refine x_ifnullN C 31 dX3_asks_14 (by decide) ?_
    refine x_iconst C (-1) (by decide) dX3_asks_31 ?_
    exact x_iret C (po_i _ _ _ _ _ _) dX3_asks_32
  · skip
    have hy : y < 0 ∨ nI n ≤ y := Or.inr hy0
    refine x_cV1 C yo_X3_keyAt m_X3_56 rfl rfl (by first | assumption | exact Nat.one_pos) (c_X3_keyAt_out l D dA base n ad I J R hT hG y hy) dX3_asks_8 rfl rfl (Nat.le_of_ble_eq_true rfl) ⟨by decide, by decide⟩ ⟨by decide, by decide⟩ ?_
    refine x_astoreN C dX3_asks_11 (by decide) rfl rfl ?_
    refine x_aload_nN C dX3_asks_13 rfl ?_
    refine x_ifnullN C 31 dX3_asks_14 (by decide) ?_
    refine x_iconst C (-1) (by decide) dX3_asks_31 ?_
    exact x_iret C (po_i _ _ _ _ _ _) dX3_asks_32
  · skip
    skip
    refine x_cV1 C yo_X3_keyAt m_X3_56 rfl rfl (by first | assumption | exact Nat.one_pos) (c_X3_keyAt_in l D dA base n ad I J R hT hG jj hjj) dX3_asks_8 rfl rfl (Nat.le_of_ble_eq_true rfl) ⟨by decide, by decide⟩ ⟨by decide, by decide⟩ ?_
    refine x_astore C dX3_asks_11 (by decide) rfl rfl ?_
    refine x_aload_nN C dX3_asks_13 rfl ?_
    refine x_ifnullN C 31 dX3_asks_14 (by decide) ?_
    refine x_iconst C (-1) (by decide) dX3_asks_31 ?_
    exact x_iret C (po_i _ _ _ _ _ _) dX3_asks_32

set_option maxRecDepth 100000 in
set_option maxHeartbeats 4000000 in
theorem c_X3_asks_o2 (l : Launch) (D : va_G) (dA : Nat → ClassId) (base n : Nat) (ad : Fa) (I : Fi) (J : Fj) (R : Fr) (hT : ST n R) (hG : KG n I R) (k : Nat) (hk : k < n) (hf : ¬ I 4 k 1 = -1) (x : Int32) (hx : x < 0 ∨ nI n ≤ x) : CT l D dA base yX3_asks cX3_asks 5 (some .int) 5 0 0 [.ref (ad 0 0), .int (nI k), .int x] ad (Nn n) I J R (po (some (.int (-1))) ad (Nn n) I J R) := by
  refine CT.of 2 (L0 := [some (.ref (ad 0 0)), some (.int (nI k)), some (.int x), none, none]) (by decide +kernel) rfl (Nat.le_of_ble_eq_true rfl) ?_
  intro p e s m args below meth c C
  refine x_aload_n C dX3_asks_0 rfl ?_
  refine x_iload_n C dX3_asks_1 rfl ?_
  refine x_cV1 C yo_X3_keyWithFunction m_X3_52 rfl rfl (by first | assumption | exact Nat.one_pos) (c_X3_kwf_in l D dA base n ad I J R hT hG k hk hf) dX3_asks_2 rfl rfl (Nat.le_of_ble_eq_true rfl) ⟨by decide, by decide⟩ ⟨by decide, by decide⟩ ?_
  refine x_astore_n C dX3_asks_5 (by decide) rfl rfl ?_
  refine x_aload_n C dX3_asks_6 rfl ?_
  refine x_iload_n C dX3_asks_7 rfl ?_
  refine x_cV1 C yo_X3_keyAt m_X3_56 rfl rfl (by first | assumption | exact Nat.one_pos) (c_X3_keyAt_out l D dA base n ad I J R hT hG x hx) dX3_asks_8 rfl rfl (Nat.le_of_ble_eq_true rfl) ⟨by decide, by decide⟩ ⟨by decide, by decide⟩ ?_
  refine x_astoreN C dX3_asks_11 (by decide) rfl rfl ?_
  refine x_aload_n C dX3_asks_13 rfl ?_
  refine x_ifnull C dX3_asks_14 ?_
  refine x_aloadN C dX3_asks_17 rfl ?_
  refine x_ifnullN C 31 dX3_asks_19 (by decide) ?_
  refine x_iconst C (-1) (by decide) dX3_asks_31 ?_
  exact x_iret C (po_i _ _ _ _ _ _) dX3_asks_32

set_option maxRecDepth 100000 in
set_option maxHeartbeats 4000000 in
theorem c_X3_asks_full (l : Launch) (D : va_G) (dA : Nat → ClassId) (base n : Nat) (ad : Fa) (I : Fi) (J : Fj) (R : Fr) (hT : ST n R) (hG : KG n I R) (k r : Nat) (hk : k < n) (j : Nat) (hj : j < n) (hf : ¬ I 4 k 1 = -1) (hr : I 4 k 3 = nI r) (hr8 : r ≤ 8) (hr9 : r = 8) : CT l D dA base yX3_asks cX3_asks 5 (some .int) 5 0 0 [.ref (ad 0 0), .int (nI k), .int (nI j)] ad (Nn n) I J R (po (some (.int (-1))) ad (Nn n) I J R) := by
  refine CT.of 2 (L0 := [some (.ref (ad 0 0)), some (.int (nI k)), some (.int (nI j)), none, none]) (by decide +kernel) rfl (Nat.le_of_ble_eq_true rfl) ?_
  intro p e s m args below meth c C
  refine x_aload_n C dX3_asks_0 rfl ?_
  refine x_iload_n C dX3_asks_1 rfl ?_
  refine x_cV1 C yo_X3_keyWithFunction m_X3_52 rfl rfl (by first | assumption | exact Nat.one_pos) (c_X3_kwf_in l D dA base n ad I J R hT hG k hk hf) dX3_asks_2 rfl rfl (Nat.le_of_ble_eq_true rfl) ⟨by decide, by decide⟩ ⟨by decide, by decide⟩ ?_
  refine x_astore_n C dX3_asks_5 (by decide) rfl rfl ?_
  refine x_aload_n C dX3_asks_6 rfl ?_
  refine x_iload_n C dX3_asks_7 rfl ?_
  refine x_cV1 C yo_X3_keyAt m_X3_56 rfl rfl (by first | assumption | exact Nat.one_pos) (c_X3_keyAt_in l D dA base n ad I J R hT hG j hj) dX3_asks_8 rfl rfl (Nat.le_of_ble_eq_true rfl) ⟨by decide, by decide⟩ ⟨by decide, by decide⟩ ?_
  refine x_astore C dX3_asks_11 (by decide) rfl rfl ?_
  refine x_aload_n C dX3_asks_13 rfl ?_
  refine x_ifnull C dX3_asks_14 ?_
  refine x_aload C dX3_asks_17 rfl ?_
  refine x_ifnull C dX3_asks_19 ?_
  refine x_aload_n C dX3_asks_22 rfl ?_
  refine x_getI C f_X3_59 rfl (by first | assumption | exact Nat.one_pos) dX3_asks_23 ?_
  refine x_bipush C 8 (by decide) dX3_asks_26 ?_
  refine x_icmp_lt C 33 dX3_asks_28 (by decide) (fun h28 => ?_) (fun h28 => ?_)
  · skip
    rw [hr, hr9] at h28
    exact absurd h28 (by decide)
  · skip
    refine x_iconst C (-1) (by decide) dX3_asks_31 ?_
    exact x_iret C (po_i _ _ _ _ _ _) dX3_asks_32

set_option maxRecDepth 100000 in
set_option maxHeartbeats 4000000 in
theorem c_X3_asks_ring (l : Launch) (D : va_G) (dA : Nat → ClassId) (base n : Nat) (ad : Fa) (I : Fi) (J : Fj) (R : Fr) (hT : ST n R) (hG : KG n I R) (k r : Nat) (hk : k < n) (j : Nat) (hj : j < n) (hf : ¬ I 4 k 1 = -1) (hr : I 4 k 3 = nI r) (hr8 : r ≤ 8) (hr7 : r < 8) (rs : Nat → Nat) (hW : RW n I R rs) (hb : bit (J 4 j 4) k = true) : CT l D dA base yX3_asks cX3_asks 5 (some .int) 5 0 0 [.ref (ad 0 0), .int (nI k), .int (nI j)] ad (Nn n) I J R (po (some (.int (-2))) ad (Nn n) (nrg (fun a => ftr R J a k (rs a) (rs a)) k 39 j 1 (up3 (up3 I 3 0 0 (nI k)) 0 0 5 1)) J R) := by
  refine CT.of 2 (L0 := [some (.ref (ad 0 0)), some (.int (nI k)), some (.int (nI j)), none, none]) (by decide +kernel) rfl (Nat.le_of_ble_eq_true rfl) ?_
  intro p e s m args below meth c C
  refine x_aload_n C dX3_asks_0 rfl ?_
  refine x_iload_n C dX3_asks_1 rfl ?_
  refine x_cV1 C yo_X3_keyWithFunction m_X3_52 rfl rfl (by first | assumption | exact Nat.one_pos) (c_X3_kwf_in l D dA base n ad I J R hT hG k hk hf) dX3_asks_2 rfl rfl (Nat.le_of_ble_eq_true rfl) ⟨by decide, by decide⟩ ⟨by decide, by decide⟩ ?_
  refine x_astore_n C dX3_asks_5 (by decide) rfl rfl ?_
  refine x_aload_n C dX3_asks_6 rfl ?_
  refine x_iload_n C dX3_asks_7 rfl ?_
  refine x_cV1 C yo_X3_keyAt m_X3_56 rfl rfl (by first | assumption | exact Nat.one_pos) (c_X3_keyAt_in l D dA base n ad I J R hT hG j hj) dX3_asks_8 rfl rfl (Nat.le_of_ble_eq_true rfl) ⟨by decide, by decide⟩ ⟨by decide, by decide⟩ ?_
  refine x_astore C dX3_asks_11 (by decide) rfl rfl ?_
  refine x_aload_n C dX3_asks_13 rfl ?_
  refine x_ifnull C dX3_asks_14 ?_
  refine x_aload C dX3_asks_17 rfl ?_
  refine x_ifnull C dX3_asks_19 ?_
  refine x_aload_n C dX3_asks_22 rfl ?_
  refine x_getI C f_X3_59 rfl (by first | assumption | exact Nat.one_pos) dX3_asks_23 ?_
  refine x_bipush C 8 (by decide) dX3_asks_26 ?_
  refine x_icmp_lt C 33 dX3_asks_28 (by decide) (fun h28 => ?_) (fun h28 => ?_)
  · skip
    refine x_aload C dX3_asks_33 rfl ?_
    refine x_aload_n C dX3_asks_35 rfl ?_
    refine x_cV1 C yo_X0_reaches m_X3_62 rfl rfl (by first | assumption | exact Nat.one_pos) (c_X0_reaches l D dA base n ad I J R hT j k hj hk (hG.2.2.2.2 k hk)) dX3_asks_36 rfl rfl (Nat.le_of_ble_eq_true rfl) ⟨by decide, by decide⟩ ⟨by decide, by decide⟩ ?_
    refine x_if_eq C 52 dX3_asks_39 (by decide) (fun h39 => ?_) (fun h39 => ?_)
    · skip
      rw [if_pos hb] at h39
      exact absurd h39 (by decide)
    · skip
      refine x_aload_n C dX3_asks_42 rfl ?_
      refine x_aload_n C dX3_asks_43 rfl ?_
      refine x_aload C dX3_asks_44 rfl ?_
      refine x_cV0 C yo_X3_noteRing m_X3_66 rfl rfl (by first | assumption | exact Nat.one_pos) (c_X3_noteRing l D dA base n ad I J R hT hG k j rs hk hj hW) dX3_asks_46 rfl rfl (Nat.le_of_ble_eq_true rfl) ⟨by decide, by decide⟩ ⟨by decide, by decide⟩ ?_
      refine x_bipush C (-2) (by decide) dX3_asks_49 ?_
      exact x_iret C (po_i _ _ _ _ _ _) dX3_asks_51
  · skip
    rw [hr] at h28
    exact absurd (nI_lt (b := 8) hr7 (by decide)) h28

theorem KG.upR {n : Nat} {I : Fi} {R : Fr} (h : KG n I R) {c i k : Nat} {v : Option Nat} (h1 : ¬ c = 1) (h2 : ¬ c = 2) : KG n I (up3 R c i k v) := ⟨h.1, h.2.1, fun q hq => by rw [up3_c _ _ _ _ _ (Ne.symm h1)]; exact h.2.2.1 q hq, fun q hq => by rw [up3_c _ _ _ _ _ (Ne.symm h2)]; exact h.2.2.2.1 q hq, h.2.2.2.2⟩
theorem PL.upR {n : Nat} {I : Fi} {R : Fr} {zs : Nat → Nat} (h : PL n I R zs) {c i k : Nat} {v : Option Nat} (h1 : ¬ c = 10) : PL n I (up3 R c i k v) zs := fun q hq => ⟨(h q hq).1, (h q hq).2.1, fun j hj => by rw [up3_c _ _ _ _ _ (Ne.symm h1)]; exact (h q hq).2.2 j hj⟩
set_option maxRecDepth 100000 in
set_option maxHeartbeats 4000000 in
theorem c_X3_asks_yes (l : Launch) (D : va_G) (dA : Nat → ClassId) (base n : Nat) (ad : Fa) (I : Fi) (J : Fj) (R : Fr) (hT : ST n R) (hG : KG n I R) (k r : Nat) (hk : k < n) (j : Nat) (hj : j < n) (hf : ¬ I 4 k 1 = -1) (hr : I 4 k 3 = nI r) (hr8 : r ≤ 8) (hr7 : r < 8) (zs : Nat → Nat) (hP : PL n I R zs) (hb : bit (J 4 j 4) k = false) : CT l D dA base yX3_asks cX3_asks 5 (some .int) 5 0 0 [.ref (ad 0 0), .int (nI k), .int (nI j)] ad (Nn n) I J R (po (some (.int 1)) ad (Nn n) (up3 (nvI (up3 R 5 k r (some j)) zs (up3 I 4 k 3 (nI (r + 1)))) 4 k 6 (I 0 0 2 + 1)) (spr k j J n) (up3 R 5 k r (some j))) := by
  refine CT.of 2 (L0 := [some (.ref (ad 0 0)), some (.int (nI k)), some (.int (nI j)), none, none]) (by decide +kernel) rfl (Nat.le_of_ble_eq_true rfl) ?_
  intro p e s m args below meth c C
  refine x_aload_n C dX3_asks_0 rfl ?_
  refine x_iload_n C dX3_asks_1 rfl ?_
  refine x_cV1 C yo_X3_keyWithFunction m_X3_52 rfl rfl (by first | assumption | exact Nat.one_pos) (c_X3_kwf_in l D dA base n ad I J R hT hG k hk hf) dX3_asks_2 rfl rfl (Nat.le_of_ble_eq_true rfl) ⟨by decide, by decide⟩ ⟨by decide, by decide⟩ ?_
  refine x_astore_n C dX3_asks_5 (by decide) rfl rfl ?_
  refine x_aload_n C dX3_asks_6 rfl ?_
  refine x_iload_n C dX3_asks_7 rfl ?_
  refine x_cV1 C yo_X3_keyAt m_X3_56 rfl rfl (by first | assumption | exact Nat.one_pos) (c_X3_keyAt_in l D dA base n ad I J R hT hG j hj) dX3_asks_8 rfl rfl (Nat.le_of_ble_eq_true rfl) ⟨by decide, by decide⟩ ⟨by decide, by decide⟩ ?_
  refine x_astore C dX3_asks_11 (by decide) rfl rfl ?_
  refine x_aload_n C dX3_asks_13 rfl ?_
  refine x_ifnull C dX3_asks_14 ?_
  refine x_aload C dX3_asks_17 rfl ?_
  refine x_ifnull C dX3_asks_19 ?_
  refine x_aload_n C dX3_asks_22 rfl ?_
  refine x_getI C f_X3_59 rfl (by first | assumption | exact Nat.one_pos) dX3_asks_23 ?_
  refine x_bipush C 8 (by decide) dX3_asks_26 ?_
  refine x_icmp_lt C 33 dX3_asks_28 (by decide) (fun h28 => ?_) (fun h28 => ?_)
  · skip
    refine x_aload C dX3_asks_33 rfl ?_
    refine x_aload_n C dX3_asks_35 rfl ?_
    refine x_cV1 C yo_X0_reaches m_X3_62 rfl rfl (by first | assumption | exact Nat.one_pos) (c_X0_reaches l D dA base n ad I J R hT j k hj hk (hG.2.2.2.2 k hk)) dX3_asks_36 rfl rfl (Nat.le_of_ble_eq_true rfl) ⟨by decide, by decide⟩ ⟨by decide, by decide⟩ ?_
    refine x_if_eq C 52 dX3_asks_39 (by decide) (fun h39 => ?_) (fun h39 => ?_)
    · skip
      refine x_aload_n C dX3_asks_52 rfl ?_
      refine x_getF C hT f_X3_70 rfl rfl (by first | assumption | exact Nat.one_pos) dX3_asks_53 ?_
      refine x_aload_n C dX3_asks_56 rfl ?_
      refine x_getI C f_X3_59 rfl (by first | assumption | exact Nat.one_pos) dX3_asks_57 ?_
      refine x_aload C dX3_asks_60 rfl ?_
      refine x_aastN C (r) hr rfl rfl rfl rfl rfl (by first | assumption | exact Nat.one_pos) (by first | assumption | exact Nat.one_pos) (by omega) (by decide) dX3_asks_62 ?_
      have hT := ST.up (c := 5) (i := k) (k := r) (v := some j) hT rfl
      have hG1 : KG n (up3 I 4 k 3 (nI (r + 1))) (up3 R 5 k r (some j)) := (hG.upR (by decide) (by decide)).up (by decide) (by decide)
      have hP1 : PL n (up3 I 4 k 3 (nI (r + 1))) (up3 R 5 k r (some j)) zs := (hP.upR (by decide)).up (by decide)
      refine x_aload_n C dX3_asks_63 rfl ?_
      refine x_dup C rfl dX3_asks_64 ?_
      refine x_getI C f_X3_59 rfl (by first | assumption | exact Nat.one_pos) dX3_asks_65 ?_
      refine x_iconst C 1 (by decide) dX3_asks_68 ?_
      refine x_iadd C dX3_asks_69 ?_
      rw [hr, nI_1]
      refine x_putI C g_X3_59 rfl (by first | assumption | exact Nat.one_pos) dX3_asks_70 ?_
      refine x_aload_n C dX3_asks_73 rfl ?_
      refine x_aload_n C dX3_asks_74 rfl ?_
      refine x_aload C dX3_asks_75 rfl ?_
      refine x_cV0 C yo_X3_spreadReach m_X3_73 rfl rfl (by first | assumption | exact Nat.one_pos) (c_X3_spreadReach l D dA base n ad (up3 I 4 k 3 (nI (r + 1))) J (up3 R 5 k r (some j)) hT hG1 k j hk hj) dX3_asks_77 rfl rfl (Nat.le_of_ble_eq_true rfl) ⟨by decide, by decide⟩ ⟨by decide, by decide⟩ ?_
      refine x_aload_n C dX3_asks_80 rfl ?_
      refine x_cV0 C yo_X3_goToNextVersion m_X3_76 rfl rfl (by first | assumption | exact Nat.one_pos) (c_X3_goToNextVersion l D dA base n ad (up3 I 4 k 3 (nI (r + 1))) (spr k j J n) (up3 R 5 k r (some j)) hT hG1 zs hP1) dX3_asks_81 rfl rfl (Nat.le_of_ble_eq_true rfl) ⟨by decide, by decide⟩ ⟨by decide, by decide⟩ ?_
      refine x_aload_n C dX3_asks_84 rfl ?_
      refine x_aload_n C dX3_asks_85 rfl ?_
      refine x_getI C f_X3_42 rfl (by first | assumption | exact Nat.one_pos) dX3_asks_86 ?_
      refine x_putI C g_X3_79 rfl (by first | assumption | exact Nat.one_pos) dX3_asks_89 ?_
      refine x_iconst C 1 (by decide) dX3_asks_92 ?_
      exact x_iret C (⟨rfl, rfl, rfl, by (rw [nvI_v, up3_c _ _ _ _ _ (show (0 : Nat) ≠ 4 by decide)]), rfl, rfl⟩) dX3_asks_93
    · skip
      rw [hb] at h39
      exact absurd rfl h39
  · skip
    rw [hr] at h28
    exact absurd (nI_lt (b := 8) hr7 (by decide)) h28

set_option maxRecDepth 100000 in
set_option maxHeartbeats 4000000 in
theorem c_X3_leaf_full0 (l : Launch) (D : va_G) (dA : Nat → ClassId) (base n : Nat) (ad : Fa) (I : Fi) (J : Fj) (R : Fr) (hT : ST n R) (hc : I 0 0 1 = nI 40) (v : Int64) : CT l D dA base yX3_leaf cX3_leaf 4 (some .int) 3 0 0 [.ref (ad 0 0), .long v] ad (Nn n) I J R (po (some (.int (-1))) ad (Nn n) I J R) := by
  refine CT.of 1 (L0 := [some (.ref (ad 0 0)), some (.long v), none, none]) (by decide +kernel) rfl (Nat.le_of_ble_eq_true rfl) ?_
  intro p e s m args below meth c C
  refine x_aload_n C dX3_leaf_0 rfl ?_
  refine x_getI C f_X3_26 rfl (by first | assumption | exact Nat.one_pos) dX3_leaf_1 ?_
  refine x_bipush C 40 (by decide) dX3_leaf_4 ?_
  refine x_icmp_lt C 11 dX3_leaf_6 (by decide) (fun h6 => ?_) (fun h6 => ?_)
  · skip
    rw [hc] at h6
    exact absurd h6 (by decide)
  · skip
    refine x_iconst C (-1) (by decide) dX3_leaf_9 ?_
    exact x_iret C (po_i _ _ _ _ _ _) dX3_leaf_10

set_option maxRecDepth 100000 in
set_option maxHeartbeats 4000000 in
theorem c_X3_key_full (l : Launch) (D : va_G) (dA : Nat → ClassId) (base n : Nat) (ad : Fa) (I : Fi) (J : Fj) (R : Fr) (hT : ST n R) (hc : I 0 0 1 = nI 40) (f : Int32) : CT l D dA base yX3_key cX3_key 2 (some .int) 3 0 0 [.ref (ad 0 0), .int f] ad (Nn n) I J R (po (some (.int (-1))) ad (Nn n) I J R) := by
  refine CT.of 0 (L0 := [some (.ref (ad 0 0)), some (.int f)]) (by decide +kernel) rfl (Nat.le_of_ble_eq_true rfl) ?_
  intro p e s m args below meth c C
  refine x_aload_n C dX3_key_0 rfl ?_
  refine x_getI C f_X3_26 rfl (by first | assumption | exact Nat.one_pos) dX3_key_1 ?_
  refine x_bipush C 40 (by decide) dX3_key_4 ?_
  refine x_icmp_ge C 19 dX3_key_6 (by decide) (fun h6 => ?_) (fun h6 => ?_)
  · skip
    refine x_iconst C (-1) (by decide) dX3_key_19 ?_
    exact x_iret C (po_i _ _ _ _ _ _) dX3_key_20
  · skip
    rw [hc] at h6
    exact absurd (by decide) h6

set_option maxRecDepth 100000 in
set_option maxHeartbeats 4000000 in
theorem c_X3_key_none (l : Launch) (D : va_G) (dA : Nat → ClassId) (base n : Nat) (ad : Fa) (I : Fi) (J : Fj) (R : Fr) (hT : ST n R) (f : Int32) (hf : f < 0 ∨ 6 ≤ f) : CT l D dA base yX3_key cX3_key 2 (some .int) 3 0 0 [.ref (ad 0 0), .int f] ad (Nn n) I J R (po (some (.int (-1))) ad (Nn n) I J R) := by
  refine CT.of 0 (L0 := [some (.ref (ad 0 0)), some (.int f)]) (by decide +kernel) rfl (Nat.le_of_ble_eq_true rfl) ?_
  intro p e s m args below meth c C
  refine x_aload_n C dX3_key_0 rfl ?_
  refine x_getI C f_X3_26 rfl (by first | assumption | exact Nat.one_pos) dX3_key_1 ?_
  refine x_bipush C 40 (by decide) dX3_key_4 ?_
  refine x_icmp_ge C 19 dX3_key_6 (by decide) (fun h6 => ?_) (fun h6 => ?_)
  · skip
    refine x_iconst C (-1) (by decide) dX3_key_19 ?_
    exact x_iret C (po_i _ _ _ _ _ _) dX3_key_20
  · skip
    refine x_iload_n C dX3_key_9 rfl ?_
    refine x_if_lt C 19 dX3_key_10 (by decide) (fun h10 => ?_) (fun h10 => ?_)
    · skip
      refine x_iconst C (-1) (by decide) dX3_key_19 ?_
      exact x_iret C (po_i _ _ _ _ _ _) dX3_key_20
    · skip
      refine x_iload_n C dX3_key_13 rfl ?_
      refine x_bipush C 6 (by decide) dX3_key_14 ?_
      refine x_icmp_lt C 21 dX3_key_16 (by decide) (fun h16 => ?_) (fun h16 => ?_)
      · skip
        exact absurd h16 (hf.elim (fun q => absurd q h10) (fun q => Int32.not_lt.mpr q))
      · skip
        refine x_iconst C (-1) (by decide) dX3_key_19 ?_
        exact x_iret C (po_i _ _ _ _ _ _) dX3_key_20

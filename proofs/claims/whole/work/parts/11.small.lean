/-! Pile; keepAskedPlaces; the small methods of KeyGraph -/
def kapS (I : Fi) (i k t : Nat) : Fi := fun c b d => if c = 6 ∧ b = i ∧ d < t then I 8 i d else up3 I 4 i 13 (nI k) c b d
theorem kapS_0 (I : Fi) (i k : Nat) : kapS I i k 0 = up3 I 4 i 13 (nI k) := by
  funext c b d
  simp [kapS]
theorem kapS_s (I : Fi) (i k t : Nat) : up3 (kapS I i k t) 6 i t (kapS I i k t 8 i t) = kapS I i k (t + 1) := by
  have h8 : kapS I i k t 8 i t = I 8 i t := by simp [kapS, up3]
  rw [h8]
  funext c b d
  by_cases h : c = 6 ∧ b = i
  · obtain ⟨rfl, rfl⟩ := h
    by_cases hd : d = t
    · subst hd; simp [up3, kapS]
    · rw [up3_k _ _ _ _ _ hd]
      by_cases h2 : d < t
      · simp [kapS, h2, Nat.lt_succ_of_lt h2]
      · simp [kapS, h2, show ¬ d < t + 1 by omega]
  · rw [up3_n _ _ _ _ _ (fun z => h ⟨z.1, z.2.1⟩)]
    simp only [kapS]
    rw [if_neg (fun z => h ⟨z.1, z.2.1⟩), if_neg (fun z => h ⟨z.1, z.2.1⟩)]
theorem kapS_4 (I : Fi) (i k t b d : Nat) : kapS I i k t 4 b d = up3 I 4 i 13 (nI k) 4 b d := by simp [kapS]
set_option maxRecDepth 100000 in
set_option maxHeartbeats 4000000 in
theorem c_X0_keepAskedPlaces (l : Launch) (D : va_G) (dA : Nat → ClassId) (base n : Nat) (ad : Fa) (I : Fi) (J : Fj) (R : Fr) (hT : ST n R) (i k : Nat) (hi : i < n) (hk : I 7 i 1 = nI k) (hk8 : k ≤ 8) : CT l D dA base yX0_keepAskedPlaces cX0_keepAskedPlaces 2 none 0 0 0 [.ref (ad 4 i)] ad (Nn n) I J R (po none ad (Nn n) (kapS I i k k) J R) := by
  refine CT.of 1 (L0 := [some (.ref (ad 4 i)), none]) (by decide +kernel) rfl (Nat.le_of_ble_eq_true rfl) ?_
  intro p e s m args below meth c C
  have loop : ∀ (f t : Nat), t + f = k → GX p l e (rmX 0 0 0) s m args below meth c (MQ below (CQ D dA base (po none ad (Nn n) (kapS I i k k) J R)) args s 0 0 (fun q => base ≤ q)) D dA base 2 ad (Nn n) (kapS I i k t) J R 0 0 13 [some (.ref (ad 4 i)), some (.int (nI t))] [] := by
    intro f
    induction f with
    | zero =>
      intro t ht
      have ht2 : t = k := by omega
      subst ht2
      have h13 : kapS I i t t 4 i 13 = nI t := by rw [kapS_4, up3_s]
      refine x_iload_n C dX0_keepAskedPlaces_13 rfl ?_
      refine x_aload_n C dX0_keepAskedPlaces_14 rfl ?_
      refine x_getI C f_X0_48 rfl (by first | assumption | exact Nat.one_pos) dX0_keepAskedPlaces_15 ?_
      refine x_icmp_ge C 42 dX0_keepAskedPlaces_18 (by decide) (fun h18 => ?_) (fun h18 => ?_)
      · skip
        exact x_vret C (po_i _ _ _ _ _ _) dX0_keepAskedPlaces_42
      · skip
        rw [h13] at h18
        exact absurd (Int32.le_refl _) h18
    | succ f ih =>
      intro t ht
      have h13 : kapS I i k t 4 i 13 = nI k := by rw [kapS_4, up3_s]
      refine x_iload_n C dX0_keepAskedPlaces_13 rfl ?_
      refine x_aload_n C dX0_keepAskedPlaces_14 rfl ?_
      refine x_getI C f_X0_48 rfl (by first | assumption | exact Nat.one_pos) dX0_keepAskedPlaces_15 ?_
      refine x_icmp_ge C 42 dX0_keepAskedPlaces_18 (by decide) (fun h18 => ?_) (fun h18 => ?_)
      · skip
        rw [h13] at h18
        exact absurd h18 (nI_ge (show t < k by omega) (by omega))
      · skip
        refine x_aload_n C dX0_keepAskedPlaces_21 rfl ?_
        refine x_getF C hT f_X0_15 rfl rfl (by first | assumption | exact Nat.one_pos) dX0_keepAskedPlaces_22 ?_
        refine x_iload_n C dX0_keepAskedPlaces_25 rfl ?_
        refine x_aload_n C dX0_keepAskedPlaces_26 rfl ?_
        refine x_getF C hT f_X0_22 rfl rfl (by first | assumption | exact Nat.one_pos) dX0_keepAskedPlaces_27 ?_
        refine x_getF C hT f_X0_54 rfl rfl (by first | assumption | exact Nat.one_pos) dX0_keepAskedPlaces_30 ?_
        refine x_iload_n C dX0_keepAskedPlaces_33 rfl ?_
        refine x_ialdN C (t) rfl rfl rfl (by first | assumption | exact Nat.one_pos) (by omega) (by decide) dX0_keepAskedPlaces_34 ?_
        refine x_iastN C (t) rfl rfl rfl (by first | assumption | exact Nat.one_pos) (by omega) (by decide) dX0_keepAskedPlaces_35 ?_
        refine x_iinc C _ dX0_keepAskedPlaces_36 rfl rfl (by decide) rfl rfl ?_
        refine x_goto C 13 dX0_keepAskedPlaces_39 (by decide) ?_
        exact x_eqL (ih (t + 1) (by omega)) rfl (by rw [← nI_1]; rfl) rfl (kapS_s I i k t) rfl rfl
  refine x_aload_n C dX0_keepAskedPlaces_0 rfl ?_
  refine x_aload_n C dX0_keepAskedPlaces_1 rfl ?_
  refine x_getF C hT f_X0_22 rfl rfl (by first | assumption | exact Nat.one_pos) dX0_keepAskedPlaces_2 ?_
  refine x_getI C f_X0_51 rfl (by first | assumption | exact Nat.one_pos) dX0_keepAskedPlaces_5 ?_
  refine x_putI C g_X0_48 rfl (by first | assumption | exact Nat.one_pos) dX0_keepAskedPlaces_8 ?_
  refine x_iconst C 0 (by decide) dX0_keepAskedPlaces_11 ?_
  refine x_istore_n C dX0_keepAskedPlaces_12 (by decide) rfl rfl ?_
  exact x_eqL (loop k 0 (by omega)) rfl rfl rfl (by rw [kapS_0, hk]) rfl rfl

set_option maxRecDepth 100000 in
set_option maxHeartbeats 4000000 in
theorem c_X1_topmost_0 (l : Launch) (D : va_G) (dA : Nat → ClassId) (base n : Nat) (ad : Fa) (I : Fi) (J : Fj) (R : Fr) (hT : ST n R) (p0 : Nat) (hp : p0 < 5) (hs : I 9 p0 1 = nI 0) : CT l D dA base yX1_topmost cX1_topmost 1 (some (.object "KeyGraph$Key")) 0 0 0 [.ref (ad 9 p0)] ad (Nn n) I J R (po (some .null) ad (Nn n) I J R) := by
  refine CT.of 0 (L0 := [some (.ref (ad 9 p0))]) (by decide +kernel) rfl (Nat.le_of_ble_eq_true rfl) ?_
  intro p e s m args below meth c C
  refine x_aload_n C dX1_topmost_0 rfl ?_
  refine x_getI C f_X1_17 rfl (by first | assumption | exact Nat.one_pos) dX1_topmost_1 ?_
  refine x_if_gt C 11 dX1_topmost_4 (by decide) (fun h4 => ?_) (fun h4 => ?_)
  · skip
    rw [hs] at h4
    exact absurd h4 (by decide)
  · skip
    refine x_null C dX1_topmost_7 ?_
    refine x_goto C 22 dX1_topmost_8 (by decide) ?_
    exact x_aret C (Or.inl ⟨_, rfl⟩) (Or.inl rfl) (po_i _ _ _ _ _ _) dX1_topmost_22

set_option maxRecDepth 100000 in
set_option maxHeartbeats 4000000 in
theorem c_X1_topmost_s (l : Launch) (D : va_G) (dA : Nat → ClassId) (base n : Nat) (ad : Fa) (I : Fi) (J : Fj) (R : Fr) (hT : ST n R) (p0 z k : Nat) (hp : p0 < 5) (hs : I 9 p0 1 = nI (z + 1)) (hz : z < 40) (hk : R 10 p0 z = some k) : CT l D dA base yX1_topmost cX1_topmost 1 (some (.object "KeyGraph$Key")) 0 0 0 [.ref (ad 9 p0)] ad (Nn n) I J R (po (some (.ref (ad 4 k))) ad (Nn n) I J R) := by
  refine CT.of 0 (L0 := [some (.ref (ad 9 p0))]) (by decide +kernel) rfl (Nat.le_of_ble_eq_true rfl) ?_
  intro p e s m args below meth c C
  refine x_aload_n C dX1_topmost_0 rfl ?_
  refine x_getI C f_X1_17 rfl (by first | assumption | exact Nat.one_pos) dX1_topmost_1 ?_
  refine x_if_gt C 11 dX1_topmost_4 (by decide) (fun h4 => ?_) (fun h4 => ?_)
  · skip
    refine x_aload_n C dX1_topmost_11 rfl ?_
    refine x_getF C hT f_X1_11 rfl rfl (by first | assumption | exact Nat.one_pos) dX1_topmost_12 ?_
    refine x_aload_n C dX1_topmost_15 rfl ?_
    refine x_getI C f_X1_17 rfl (by first | assumption | exact Nat.one_pos) dX1_topmost_16 ?_
    refine x_iconst C 1 (by decide) dX1_topmost_19 ?_
    refine x_isub C dX1_topmost_20 ?_
    refine x_aaldS C (z) (by rw [hs]; exact nI_pred z) rfl rfl rfl (by first | assumption | exact Nat.one_pos) hz (by decide) hk dX1_topmost_21 ?_
    exact x_aret C (Or.inl ⟨_, rfl⟩) (Or.inr ⟨_, rfl⟩) (po_i _ _ _ _ _ _) dX1_topmost_22
  · skip
    rw [hs] at h4
    exact absurd (nI_lt (a := 0) (Nat.succ_pos z) (by omega)) h4

def putI (I : Fi) (p0 i z : Nat) : Fi := up3 (up3 (stI I i) 4 i 16 1) 9 p0 1 (nI (z + 1))
theorem stI_9 (I : Fi) (i b d : Nat) : stI I i 9 b d = I 9 b d := by simp [stI, swI, up3]
set_option maxRecDepth 100000 in
set_option maxHeartbeats 4000000 in
theorem c_X1_put (l : Launch) (D : va_G) (dA : Nat → ClassId) (base n : Nat) (ad : Fa) (I : Fi) (J : Fj) (R : Fr) (hT : ST n R) (p0 i z : Nat) (hp : p0 < 5) (hi : i < n) (hs : I 9 p0 1 = nI z) (hz : z < 40) : CT l D dA base yX1_put cX1_put 2 none 2 0 0 [.ref (ad 9 p0), .ref (ad 4 i)] ad (Nn n) I J R (po none ad (Nn n) (putI I p0 i z) (up3 J 7 i 3 0) (up3 R 10 p0 z (some i))) := by
  refine CT.of 0 (L0 := [some (.ref (ad 9 p0)), some (.ref (ad 4 i))]) (by decide +kernel) rfl (Nat.le_of_ble_eq_true rfl) ?_
  intro p e s m args below meth c C
  refine x_aload_n C dX1_put_0 rfl ?_
  refine x_getI C f_X1_17 rfl (by first | assumption | exact Nat.one_pos) dX1_put_1 ?_
  refine x_aload_n C dX1_put_4 rfl ?_
  refine x_getF C hT f_X1_11 rfl rfl (by first | assumption | exact Nat.one_pos) dX1_put_5 ?_
  refine x_alen C 40 rfl rfl (by decide) (by first | assumption | exact Nat.one_pos) dX1_put_8 ?_
  refine x_icmp_ge C 45 dX1_put_9 (by decide) (fun h9 => ?_) (fun h9 => ?_)
  · skip
    rw [hs] at h9
    exact absurd h9 (nI_ge (b := 40) hz (by decide))
  · skip
    refine x_aload_n C dX1_put_12 rfl ?_
    refine x_getF C hT f_X1_21 rfl rfl (by first | assumption | exact Nat.one_pos) dX1_put_13 ?_
    refine x_aload_n C dX1_put_16 rfl ?_
    refine x_cV0 C yo_X2_start m_X1_25 rfl rfl (by first | assumption | exact Nat.one_pos) (c_X2_start l D dA base n ad I J R hT i hi) dX1_put_17 rfl rfl (Nat.le_of_ble_eq_true rfl) ⟨by decide, by decide⟩ ⟨by decide, by decide⟩ ?_
    refine x_aload_n C dX1_put_20 rfl ?_
    refine x_iconst C 1 (by decide) dX1_put_21 ?_
    refine x_putZ C g_X1_31 rfl (by first | assumption | exact Nat.one_pos) (by first | exact Or.inl rfl | exact Or.inr rfl | assumption) dX1_put_22 ?_
    refine x_aload_n C dX1_put_25 rfl ?_
    refine x_getF C hT f_X1_11 rfl rfl (by first | assumption | exact Nat.one_pos) dX1_put_26 ?_
    refine x_aload_n C dX1_put_29 rfl ?_
    refine x_getI C f_X1_17 rfl (by first | assumption | exact Nat.one_pos) dX1_put_30 ?_
    refine x_aload_n C dX1_put_33 rfl ?_
    refine x_aastN C (z) (by rw [up3_c _ _ _ _ _ (by decide), stI_9]; exact hs) rfl rfl rfl rfl rfl (by first | assumption | exact Nat.one_pos) (by first | assumption | exact Nat.one_pos) hz (by decide) dX1_put_34 ?_
    refine x_aload_n C dX1_put_35 rfl ?_
    refine x_dup C rfl dX1_put_36 ?_
    refine x_getI C f_X1_17 rfl (by first | assumption | exact Nat.one_pos) dX1_put_37 ?_
    refine x_iconst C 1 (by decide) dX1_put_40 ?_
    refine x_iadd C dX1_put_41 ?_
    refine x_putI C g_X1_17 rfl (by first | assumption | exact Nat.one_pos) dX1_put_42 ?_
    exact x_vret C (⟨rfl, rfl, rfl, by (unfold putI; congr 1; rw [up3_c _ _ _ _ _ (by decide), stI_9, hs]; exact nI_1 z), rfl, rfl⟩) dX1_put_45

def ttI (I : Fi) (p0 k z : Nat) : Fi := up3 (up3 I 4 k 16 0) 9 p0 1 (nI z)
set_option maxRecDepth 100000 in
set_option maxHeartbeats 4000000 in
theorem c_X1_takeTopmost (l : Launch) (D : va_G) (dA : Nat → ClassId) (base n : Nat) (ad : Fa) (I : Fi) (J : Fj) (R : Fr) (hT : ST n R) (p0 z k : Nat) (hp : p0 < 5) (hs : I 9 p0 1 = nI (z + 1)) (hz : z < 40) (hk : R 10 p0 z = some k) (hkn : k < n) : CT l D dA base yX1_takeTopmost cX1_takeTopmost 2 none 1 0 0 [.ref (ad 9 p0)] ad (Nn n) I J R (po none ad (Nn n) (ttI I p0 k z) J R) := by
  refine CT.of 1 (L0 := [some (.ref (ad 9 p0)), none]) (by decide +kernel) rfl (Nat.le_of_ble_eq_true rfl) ?_
  intro p e s m args below meth c C
  refine x_aload_n C dX1_takeTopmost_0 rfl ?_
  refine x_cV1 C yo_X1_topmost m_X1_35 rfl rfl (by first | assumption | exact Nat.one_pos) (c_X1_topmost_s l D dA base n ad I J R hT p0 z k hp hs hz hk) dX1_takeTopmost_1 rfl rfl (Nat.le_of_ble_eq_true rfl) ⟨by decide, by decide⟩ ⟨by decide, by decide⟩ ?_
  refine x_astore_n C dX1_takeTopmost_4 (by decide) rfl rfl ?_
  refine x_aload_n C dX1_takeTopmost_5 rfl ?_
  refine x_ifnull C dX1_takeTopmost_6 ?_
  refine x_aload_n C dX1_takeTopmost_9 rfl ?_
  refine x_iconst C 0 (by decide) dX1_takeTopmost_10 ?_
  refine x_putZ C g_X1_31 rfl (by first | assumption | exact Nat.one_pos) (by first | exact Or.inl rfl | exact Or.inr rfl | assumption) dX1_takeTopmost_11 ?_
  refine x_aload_n C dX1_takeTopmost_14 rfl ?_
  refine x_dup C rfl dX1_takeTopmost_15 ?_
  refine x_getI C f_X1_17 rfl (by first | assumption | exact Nat.one_pos) dX1_takeTopmost_16 ?_
  refine x_iconst C 1 (by decide) dX1_takeTopmost_19 ?_
  refine x_isub C dX1_takeTopmost_20 ?_
  refine x_putI C g_X1_17 rfl (by first | assumption | exact Nat.one_pos) dX1_takeTopmost_21 ?_
  exact x_vret C (⟨rfl, rfl, rfl, by (unfold ttI; congr 1; rw [up3_c _ _ _ _ _ (by decide), hs]; exact nI_pred z), rfl, rfl⟩) dX1_takeTopmost_24

/-- a pile of z keys is emptied -/
def tka (R : Fr) (p0 : Nat) : Nat → Fi → Fi
  | 0, I => I
  | z + 1, I => tka R p0 z (ttI I p0 ((R 10 p0 z).getD 0) z)
set_option maxRecDepth 100000 in
set_option maxHeartbeats 4000000 in
theorem c_X1_takeAll (l : Launch) (D : va_G) (dA : Nat → ClassId) (base n : Nat) (ad : Fa) (I : Fi) (J : Fj) (R : Fr) (hT : ST n R) (p0 z : Nat) (hp : p0 < 5) (hs : I 9 p0 1 = nI z) (hz : z ≤ 40) (hk : ∀ j, j < z → ∃ k, R 10 p0 j = some k ∧ k < n) : CT l D dA base yX1_takeAll cX1_takeAll 3 (some .int) 2 0 0 [.ref (ad 9 p0)] ad (Nn n) I J R (po (some (.int (nI z))) ad (Nn n) (tka R p0 z I) J R) := by
  refine CT.of 2 (L0 := [some (.ref (ad 9 p0)), none, none]) (by decide +kernel) rfl (Nat.le_of_ble_eq_true rfl) ?_
  intro p e s m args below meth c C
  have loop : ∀ (z1 : Nat) (I1 : Fi), z1 ≤ z → I1 9 p0 1 = nI z1 → tka R p0 z I = tka R p0 z1 I1 → GX p l e (rmX 2 0 0) s m args below meth c (MQ below (CQ D dA base (po (some (.int (nI z))) ad (Nn n) (tka R p0 z I) J R)) args s 0 0 (fun q => base ≤ q)) D dA base 3 ad (Nn n) I1 J R 0 0 7 [some (.ref (ad 9 p0)), some (.int (nI z)), some (.int (nI (z - z1)))] [] := by
    intro z1
    induction z1 with
    | zero =>
      intro I1 h1 h2 h3
      refine x_iload_n C dX1_takeAll_7 rfl ?_
      refine x_iload_n C dX1_takeAll_8 rfl ?_
      refine x_icmp_ge C 22 dX1_takeAll_9 (by decide) (fun h9 => ?_) (fun h9 => ?_)
      · skip
        refine x_iload_n C dX1_takeAll_22 rfl ?_
        exact x_iret C (⟨rfl, rfl, rfl, h3.symm, rfl, rfl⟩) dX1_takeAll_23
      · skip
        exact absurd (Int32.le_refl _) h9
    | succ z1 ih =>
      intro I1 h1 h2 h3
      obtain ⟨k, hk1, hk2⟩ := hk z1 (by omega)
      refine x_iload_n C dX1_takeAll_7 rfl ?_
      refine x_iload_n C dX1_takeAll_8 rfl ?_
      refine x_icmp_ge C 22 dX1_takeAll_9 (by decide) (fun h9 => ?_) (fun h9 => ?_)
      · skip
        exact absurd h9 (nI_ge (show z - (z1 + 1) < z by omega) (by omega))
      · skip
        refine x_aload_n C dX1_takeAll_12 rfl ?_
        refine x_cV0 C yo_X1_takeTopmost m_X1_39 rfl rfl (by first | assumption | exact Nat.one_pos) (c_X1_takeTopmost l D dA base n ad I1 J R hT p0 z1 k hp h2 (by omega) hk1 hk2) dX1_takeAll_13 rfl rfl (Nat.le_of_ble_eq_true rfl) ⟨by decide, by decide⟩ ⟨by decide, by decide⟩ ?_
        refine x_iinc C _ dX1_takeAll_16 rfl rfl (by decide) rfl rfl ?_
        refine x_goto C 7 dX1_takeAll_19 (by decide) ?_
        exact x_eqL (ih (ttI I1 p0 k z1) (by omega) (by simp [ttI, up3]) (h3.trans (by simp only [tka, hk1, Option.getD_some]))) rfl (by rw [show z - z1 = z - (z1 + 1) + 1 by omega, ← nI_1]; rfl) rfl rfl rfl rfl
  refine x_aload_n C dX1_takeAll_0 rfl ?_
  refine x_getI C f_X1_17 rfl (by first | assumption | exact Nat.one_pos) dX1_takeAll_1 ?_
  refine x_istore_n C dX1_takeAll_4 (by decide) rfl rfl ?_
  refine x_iconst C 0 (by decide) dX1_takeAll_5 ?_
  refine x_istore_n C dX1_takeAll_6 (by decide) rfl rfl ?_
  exact x_eqL (loop z I (Nat.le_refl _) hs rfl) rfl (by rw [hs, Nat.sub_self]; rfl) rfl rfl rfl rfl

/-- the graph's own cells: n keys, each under its number, five piles -/
def KG (n : Nat) (I : Fi) (R : Fr) : Prop := I 0 0 1 = nI n ∧ n ≤ 40 ∧ (∀ k, k < n → R 1 0 k = some k) ∧ (∀ q, q < 5 → R 2 0 q = some q) ∧ ∀ k, k < n → I 4 k 0 = nI k
def sure (I : Fi) (i : Nat) : Bool := decide (I 4 i 1 = -1 ∨ (¬ I 4 i 10 = 0 ∧ I 4 i 11 = I 0 0 2))
set_option maxRecDepth 100000 in
set_option maxHeartbeats 4000000 in
theorem c_X3_keyAt_in (l : Launch) (D : va_G) (dA : Nat → ClassId) (base n : Nat) (ad : Fa) (I : Fi) (J : Fj) (R : Fr) (hT : ST n R) (hG : KG n I R) (k : Nat) (hk : k < n) : CT l D dA base yX3_keyAt cX3_keyAt 2 (some (.object "KeyGraph$Key")) 0 0 0 [.ref (ad 0 0), .int (nI k)] ad (Nn n) I J R (po (some (.ref (ad 4 k))) ad (Nn n) I J R) := by
  refine CT.of 0 (L0 := [some (.ref (ad 0 0)), some (.int (nI k))]) (by decide +kernel) rfl (Nat.le_of_ble_eq_true rfl) ?_
  intro p e s m args below meth c C
  have hn := hG.2.1
  refine x_iload_n C dX3_keyAt_0 rfl ?_
  refine x_if_lt C 12 dX3_keyAt_1 (by decide) (fun h1 => ?_) (fun h1 => ?_)
  · skip
    exact absurd h1 (nI_pos (by omega))
  · skip
    refine x_iload_n C dX3_keyAt_4 rfl ?_
    refine x_aload_n C dX3_keyAt_5 rfl ?_
    refine x_getI C f_X3_26 rfl (by first | assumption | exact Nat.one_pos) dX3_keyAt_6 ?_
    refine x_icmp_lt C 16 dX3_keyAt_9 (by decide) (fun h9 => ?_) (fun h9 => ?_)
    · skip
      refine x_aload_n C dX3_keyAt_16 rfl ?_
      refine x_getF C hT f_X3_11 rfl rfl (by first | assumption | exact Nat.one_pos) dX3_keyAt_17 ?_
      refine x_iload_n C dX3_keyAt_20 rfl ?_
      refine x_aaldS C (k) rfl rfl rfl rfl (by first | assumption | exact Nat.one_pos) (by omega) (by decide) (hG.2.2.1 k hk) dX3_keyAt_21 ?_
      exact x_aret C (Or.inl ⟨_, rfl⟩) (Or.inr ⟨_, rfl⟩) (po_i _ _ _ _ _ _) dX3_keyAt_22
    · skip
      rw [hG.1] at h9
      exact absurd (nI_lt hk (by omega)) h9

set_option maxRecDepth 100000 in
set_option maxHeartbeats 4000000 in
theorem c_X3_keyAt_out (l : Launch) (D : va_G) (dA : Nat → ClassId) (base n : Nat) (ad : Fa) (I : Fi) (J : Fj) (R : Fr) (hT : ST n R) (hG : KG n I R) (x : Int32) (hx : x < 0 ∨ nI n ≤ x) : CT l D dA base yX3_keyAt cX3_keyAt 2 (some (.object "KeyGraph$Key")) 0 0 0 [.ref (ad 0 0), .int x] ad (Nn n) I J R (po (some .null) ad (Nn n) I J R) := by
  refine CT.of 0 (L0 := [some (.ref (ad 0 0)), some (.int x)]) (by decide +kernel) rfl (Nat.le_of_ble_eq_true rfl) ?_
  intro p e s m args below meth c C
  refine x_iload_n C dX3_keyAt_0 rfl ?_
  refine x_if_lt C 12 dX3_keyAt_1 (by decide) (fun h1 => ?_) (fun h1 => ?_)
  · skip
    refine x_null C dX3_keyAt_12 ?_
    refine x_goto C 22 dX3_keyAt_13 (by decide) ?_
    exact x_aret C (Or.inl ⟨_, rfl⟩) (Or.inl rfl) (po_i _ _ _ _ _ _) dX3_keyAt_22
  · skip
    refine x_iload_n C dX3_keyAt_4 rfl ?_
    refine x_aload_n C dX3_keyAt_5 rfl ?_
    refine x_getI C f_X3_26 rfl (by first | assumption | exact Nat.one_pos) dX3_keyAt_6 ?_
    refine x_icmp_lt C 16 dX3_keyAt_9 (by decide) (fun h9 => ?_) (fun h9 => ?_)
    · skip
      rw [hG.1] at h9
      exact absurd h9 (hx.elim (fun q => absurd q h1) (fun q => Int32.not_lt.mpr q))
    · skip
      refine x_null C dX3_keyAt_12 ?_
      refine x_goto C 22 dX3_keyAt_13 (by decide) ?_
      exact x_aret C (Or.inl ⟨_, rfl⟩) (Or.inl rfl) (po_i _ _ _ _ _ _) dX3_keyAt_22

set_option maxRecDepth 100000 in
set_option maxHeartbeats 4000000 in
theorem c_X3_kwf_in (l : Launch) (D : va_G) (dA : Nat → ClassId) (base n : Nat) (ad : Fa) (I : Fi) (J : Fj) (R : Fr) (hT : ST n R) (hG : KG n I R) (k : Nat) (hk : k < n) (hf : ¬ I 4 k 1 = -1) : CT l D dA base yX3_keyWithFunction cX3_keyWithFunction 3 (some (.object "KeyGraph$Key")) 1 0 0 [.ref (ad 0 0), .int (nI k)] ad (Nn n) I J R (po (some (.ref (ad 4 k))) ad (Nn n) I J R) := by
  refine CT.of 1 (L0 := [some (.ref (ad 0 0)), some (.int (nI k)), none]) (by decide +kernel) rfl (Nat.le_of_ble_eq_true rfl) ?_
  intro p e s m args below meth c C
  refine x_aload_n C dX3_keyWithFunction_0 rfl ?_
  refine x_iload_n C dX3_keyWithFunction_1 rfl ?_
  refine x_cV1 C yo_X3_keyAt m_X3_56 rfl rfl (by first | assumption | exact Nat.one_pos) (c_X3_keyAt_in l D dA base n ad I J R hT hG k hk) dX3_keyWithFunction_2 rfl rfl (Nat.le_of_ble_eq_true rfl) ⟨by decide, by decide⟩ ⟨by decide, by decide⟩ ?_
  refine x_astore_n C dX3_keyWithFunction_5 (by decide) rfl rfl ?_
  refine x_aload_n C dX3_keyWithFunction_6 rfl ?_
  refine x_ifnull C dX3_keyWithFunction_7 ?_
  refine x_aload_n C dX3_keyWithFunction_10 rfl ?_
  refine x_cV1 C yo_X0_isLeaf m_X3_85 rfl rfl (by first | assumption | exact Nat.one_pos) (c_X0_isLeaf l D dA base n ad I J R hT k hk) dX3_keyWithFunction_11 rfl rfl (Nat.le_of_ble_eq_true rfl) ⟨by decide, by decide⟩ ⟨by decide, by decide⟩ ?_
  refine x_if_eq C 21 dX3_keyWithFunction_14 (by decide) (fun h14 => ?_) (fun h14 => ?_)
  · skip
    refine x_aload_n C dX3_keyWithFunction_21 rfl ?_
    exact x_aret C (Or.inl ⟨_, rfl⟩) (Or.inr ⟨_, rfl⟩) (po_i _ _ _ _ _ _) dX3_keyWithFunction_22
  · skip
    rw [if_neg hf] at h14
    exact absurd rfl h14

set_option maxRecDepth 100000 in
set_option maxHeartbeats 4000000 in
theorem c_X3_kwf_leaf (l : Launch) (D : va_G) (dA : Nat → ClassId) (base n : Nat) (ad : Fa) (I : Fi) (J : Fj) (R : Fr) (hT : ST n R) (hG : KG n I R) (k : Nat) (hk : k < n) (hf : I 4 k 1 = -1) : CT l D dA base yX3_keyWithFunction cX3_keyWithFunction 3 (some (.object "KeyGraph$Key")) 1 0 0 [.ref (ad 0 0), .int (nI k)] ad (Nn n) I J R (po (some .null) ad (Nn n) I J R) := by
  refine CT.of 1 (L0 := [some (.ref (ad 0 0)), some (.int (nI k)), none]) (by decide +kernel) rfl (Nat.le_of_ble_eq_true rfl) ?_
  intro p e s m args below meth c C
  refine x_aload_n C dX3_keyWithFunction_0 rfl ?_
  refine x_iload_n C dX3_keyWithFunction_1 rfl ?_
  refine x_cV1 C yo_X3_keyAt m_X3_56 rfl rfl (by first | assumption | exact Nat.one_pos) (c_X3_keyAt_in l D dA base n ad I J R hT hG k hk) dX3_keyWithFunction_2 rfl rfl (Nat.le_of_ble_eq_true rfl) ⟨by decide, by decide⟩ ⟨by decide, by decide⟩ ?_
  refine x_astore_n C dX3_keyWithFunction_5 (by decide) rfl rfl ?_
  refine x_aload_n C dX3_keyWithFunction_6 rfl ?_
  refine x_ifnull C dX3_keyWithFunction_7 ?_
  refine x_aload_n C dX3_keyWithFunction_10 rfl ?_
  refine x_cV1 C yo_X0_isLeaf m_X3_85 rfl rfl (by first | assumption | exact Nat.one_pos) (c_X0_isLeaf l D dA base n ad I J R hT k hk) dX3_keyWithFunction_11 rfl rfl (Nat.le_of_ble_eq_true rfl) ⟨by decide, by decide⟩ ⟨by decide, by decide⟩ ?_
  refine x_if_eq C 21 dX3_keyWithFunction_14 (by decide) (fun h14 => ?_) (fun h14 => ?_)
  · skip
    rw [if_pos hf] at h14
    exact absurd h14 (by decide)
  · skip
    refine x_null C dX3_keyWithFunction_17 ?_
    refine x_goto C 22 dX3_keyWithFunction_18 (by decide) ?_
    exact x_aret C (Or.inl ⟨_, rfl⟩) (Or.inl rfl) (po_i _ _ _ _ _ _) dX3_keyWithFunction_22

set_option maxRecDepth 100000 in
set_option maxHeartbeats 4000000 in
theorem c_X3_kwf_out (l : Launch) (D : va_G) (dA : Nat → ClassId) (base n : Nat) (ad : Fa) (I : Fi) (J : Fj) (R : Fr) (hT : ST n R) (hG : KG n I R) (x : Int32) (hx : x < 0 ∨ nI n ≤ x) : CT l D dA base yX3_keyWithFunction cX3_keyWithFunction 3 (some (.object "KeyGraph$Key")) 1 0 0 [.ref (ad 0 0), .int x] ad (Nn n) I J R (po (some .null) ad (Nn n) I J R) := by
  refine CT.of 1 (L0 := [some (.ref (ad 0 0)), some (.int x), none]) (by decide +kernel) rfl (Nat.le_of_ble_eq_true rfl) ?_
  intro p e s m args below meth c C
  refine x_aload_n C dX3_keyWithFunction_0 rfl ?_
  refine x_iload_n C dX3_keyWithFunction_1 rfl ?_
  refine x_cV1 C yo_X3_keyAt m_X3_56 rfl rfl (by first | assumption | exact Nat.one_pos) (c_X3_keyAt_out l D dA base n ad I J R hT hG x hx) dX3_keyWithFunction_2 rfl rfl (Nat.le_of_ble_eq_true rfl) ⟨by decide, by decide⟩ ⟨by decide, by decide⟩ ?_
  refine x_astore_nN C dX3_keyWithFunction_5 (by decide) rfl rfl ?_
  refine x_aload_nN C dX3_keyWithFunction_6 rfl ?_
  refine x_ifnullN C 17 dX3_keyWithFunction_7 (by decide) ?_
  refine x_null C dX3_keyWithFunction_17 ?_
  refine x_goto C 22 dX3_keyWithFunction_18 (by decide) ?_
  exact x_aret C (Or.inl ⟨_, rfl⟩) (Or.inl rfl) (po_i _ _ _ _ _ _) dX3_keyWithFunction_22

set_option maxRecDepth 100000 in
set_option maxHeartbeats 4000000 in
theorem c_X3_isWorker (l : Launch) (D : va_G) (dA : Nat → ClassId) (base n : Nat) (ad : Fa) (I : Fi) (J : Fj) (R : Fr) (x : Int32) : CT l D dA base yX3_isWorker cX3_isWorker 1 (some .boolean) 0 0 0 [.int x] ad (Nn n) I J R (po (some (.int (if 0 ≤ x ∧ x < 4 then 1 else 0))) ad (Nn n) I J R) := by
  refine CT.of 0 (L0 := [some (.int x)]) (by decide +kernel) rfl (Nat.le_of_ble_eq_true rfl) ?_
  intro p e s m args below meth c C
  refine x_iload_n C dX3_isWorker_0 rfl ?_
  refine x_if_lt C 13 dX3_isWorker_1 (by decide) (fun h1 => ?_) (fun h1 => ?_)
  · skip
    refine x_iconst C 0 (by decide) dX3_isWorker_13 ?_
    exact x_zret C (by first | exact Or.inl rfl | exact Or.inr rfl | assumption) (po_r (by rw [if_neg (fun z => absurd h1 (Int32.not_lt.mpr z.1))])) dX3_isWorker_14
  · skip
    refine x_iload_n C dX3_isWorker_4 rfl ?_
    refine x_iconst C 4 (by decide) dX3_isWorker_5 ?_
    refine x_icmp_ge C 13 dX3_isWorker_6 (by decide) (fun h6 => ?_) (fun h6 => ?_)
    · skip
      refine x_iconst C 0 (by decide) dX3_isWorker_13 ?_
      exact x_zret C (by first | exact Or.inl rfl | exact Or.inr rfl | assumption) (po_r (by rw [if_neg (fun z => absurd z.2 (Int32.not_lt.mpr h6))])) dX3_isWorker_14
    · skip
      refine x_iconst C 1 (by decide) dX3_isWorker_9 ?_
      refine x_goto C 14 dX3_isWorker_10 (by decide) ?_
      exact x_zret C (by first | exact Or.inl rfl | exact Or.inr rfl | assumption) (po_r (by rw [if_pos ⟨Int32.not_lt.mp h1, Int32.not_le.mp h6⟩])) dX3_isWorker_14

set_option maxRecDepth 100000 in
set_option maxHeartbeats 4000000 in
theorem c_X3_isSure (l : Launch) (D : va_G) (dA : Nat → ClassId) (base n : Nat) (ad : Fa) (I : Fi) (J : Fj) (R : Fr) (hT : ST n R) (i : Nat) (hi : i < n) : CT l D dA base yX3_isSure cX3_isSure 2 (some .boolean) 1 0 0 [.ref (ad 0 0), .ref (ad 4 i)] ad (Nn n) I J R (po (some (.int (if sure I i = true then 1 else 0))) ad (Nn n) I J R) := by
  refine CT.of 0 (L0 := [some (.ref (ad 0 0)), some (.ref (ad 4 i))]) (by decide +kernel) rfl (Nat.le_of_ble_eq_true rfl) ?_
  intro p e s m args below meth c C
  refine x_aload_n C dX3_isSure_0 rfl ?_
  refine x_cV1 C yo_X0_isLeaf m_X3_85 rfl rfl (by first | assumption | exact Nat.one_pos) (c_X0_isLeaf l D dA base n ad I J R hT i hi) dX3_isSure_1 rfl rfl (Nat.le_of_ble_eq_true rfl) ⟨by decide, by decide⟩ ⟨by decide, by decide⟩ ?_
  refine x_if_ne C 25 dX3_isSure_4 (by decide) (fun h4 => ?_) (fun h4 => ?_)
  · skip
    refine x_iconst C 1 (by decide) dX3_isSure_25 ?_
    refine x_goto C 30 dX3_isSure_26 (by decide) ?_
    exact x_zret C (by first | exact Or.inl rfl | exact Or.inr rfl | assumption) (po_r (by simp only [sure, decide_eq_true_eq]; simp_all)) dX3_isSure_30
  · skip
    refine x_aload_n C dX3_isSure_7 rfl ?_
    refine x_getI C f_X3_139 rfl (by first | assumption | exact Nat.one_pos) dX3_isSure_8 ?_
    refine x_if_eq C 29 dX3_isSure_11 (by decide) (fun h11 => ?_) (fun h11 => ?_)
    · skip
      refine x_iconst C 0 (by decide) dX3_isSure_29 ?_
      exact x_zret C (by first | exact Or.inl rfl | exact Or.inr rfl | assumption) (po_r (by simp only [sure, decide_eq_true_eq]; simp_all)) dX3_isSure_30
    · skip
      refine x_aload_n C dX3_isSure_14 rfl ?_
      refine x_getI C f_X3_149 rfl (by first | assumption | exact Nat.one_pos) dX3_isSure_15 ?_
      refine x_aload_n C dX3_isSure_18 rfl ?_
      refine x_getI C f_X3_42 rfl (by first | assumption | exact Nat.one_pos) dX3_isSure_19 ?_
      refine x_icmp_ne C 29 dX3_isSure_22 (by decide) (fun h22 => ?_) (fun h22 => ?_)
      · skip
        refine x_iconst C 0 (by decide) dX3_isSure_29 ?_
        exact x_zret C (by first | exact Or.inl rfl | exact Or.inr rfl | assumption) (po_r (by simp only [sure, decide_eq_true_eq]; simp_all)) dX3_isSure_30
      · skip
        refine x_iconst C 1 (by decide) dX3_isSure_25 ?_
        refine x_goto C 30 dX3_isSure_26 (by decide) ?_
        exact x_zret C (by first | exact Or.inl rfl | exact Or.inr rfl | assumption) (po_r (by simp only [sure, decide_eq_true_eq]; simp_all)) dX3_isSure_30

set_option maxRecDepth 100000 in
set_option maxHeartbeats 4000000 in
theorem c_X3_makeSure (l : Launch) (D : va_G) (dA : Nat → ClassId) (base n : Nat) (ad : Fa) (I : Fi) (J : Fj) (R : Fr) (hT : ST n R) (p0 z i : Nat) (hp : p0 < 5) (hs : I 9 p0 1 = nI (z + 1)) (hz : z < 40) (hk : R 10 p0 z = some i) (hi : i < n) : CT l D dA base yX3_makeSure cX3_makeSure 3 none 2 0 0 [.ref (ad 0 0), .ref (ad 4 i), .ref (ad 9 p0)] ad (Nn n) I J R (po none ad (Nn n) (ttI (up3 I 4 i 11 (I 0 0 2)) p0 i z) J R) := by
  refine CT.of 0 (L0 := [some (.ref (ad 0 0)), some (.ref (ad 4 i)), some (.ref (ad 9 p0))]) (by decide +kernel) rfl (Nat.le_of_ble_eq_true rfl) ?_
  intro p e s m args below meth c C
  refine x_aload_n C dX3_makeSure_0 rfl ?_
  refine x_aload_n C dX3_makeSure_1 rfl ?_
  refine x_getI C f_X3_42 rfl (by first | assumption | exact Nat.one_pos) dX3_makeSure_2 ?_
  refine x_putI C g_X3_149 rfl (by first | assumption | exact Nat.one_pos) dX3_makeSure_5 ?_
  refine x_aload_n C dX3_makeSure_8 rfl ?_
  refine x_cV0 C yo_X1_takeTopmost m_X3_222 rfl rfl (by first | assumption | exact Nat.one_pos) (c_X1_takeTopmost l D dA base n ad (up3 I 4 i 11 (I 0 0 2)) J R hT p0 z i hp (by rw [up3_c _ _ _ _ _ (by decide)]; exact hs) hz hk hi) dX3_makeSure_9 rfl rfl (Nat.le_of_ble_eq_true rfl) ⟨by decide, by decide⟩ ⟨by decide, by decide⟩ ?_
  exact x_vret C (po_i _ _ _ _ _ _) dX3_makeSure_12

set_option maxRecDepth 100000 in
set_option maxHeartbeats 4000000 in
theorem c_X3_findFirst_w (l : Launch) (D : va_G) (dA : Nat → ClassId) (base n : Nat) (ad : Fa) (I : Fi) (J : Fj) (R : Fr) (hT : ST n R) (i p0 : Nat) (hi : i < n) (hp : p0 < 5) (hq : ¬ I 4 i 16 = 0) : CT l D dA base yX3_findFirst cX3_findFirst 2 (some .int) 3 0 0 [.ref (ad 4 i), .ref (ad 9 p0)] ad (Nn n) I J R (po (some (.int 3)) ad (Nn n) I J R) := by
  refine CT.of 0 (L0 := [some (.ref (ad 4 i)), some (.ref (ad 9 p0))]) (by decide +kernel) rfl (Nat.le_of_ble_eq_true rfl) ?_
  intro p e s m args below meth c C
  refine x_aload_n C dX3_findFirst_0 rfl ?_
  refine x_getI C f_X3_103 rfl (by first | assumption | exact Nat.one_pos) dX3_findFirst_1 ?_
  refine x_if_eq C 9 dX3_findFirst_4 (by decide) (fun h4 => ?_) (fun h4 => ?_)
  · skip
    exact absurd h4 hq
  · skip
    refine x_iconst C 3 (by decide) dX3_findFirst_7 ?_
    exact x_iret C (po_i _ _ _ _ _ _) dX3_findFirst_8

set_option maxRecDepth 100000 in
set_option maxHeartbeats 4000000 in
theorem c_X3_findFirst_p (l : Launch) (D : va_G) (dA : Nat → ClassId) (base n : Nat) (ad : Fa) (I : Fi) (J : Fj) (R : Fr) (hT : ST n R) (i p0 z : Nat) (hi : i < n) (hp : p0 < 5) (hq : I 4 i 16 = 0) (hs : I 9 p0 1 = nI z) (hz : z < 40) : CT l D dA base yX3_findFirst cX3_findFirst 2 (some .int) 3 0 0 [.ref (ad 4 i), .ref (ad 9 p0)] ad (Nn n) I J R (po (some (.int 1)) ad (Nn n) (putI I p0 i z) (up3 J 7 i 3 0) (up3 R 10 p0 z (some i))) := by
  refine CT.of 0 (L0 := [some (.ref (ad 4 i)), some (.ref (ad 9 p0))]) (by decide +kernel) rfl (Nat.le_of_ble_eq_true rfl) ?_
  intro p e s m args below meth c C
  refine x_aload_n C dX3_findFirst_0 rfl ?_
  refine x_getI C f_X3_103 rfl (by first | assumption | exact Nat.one_pos) dX3_findFirst_1 ?_
  refine x_if_eq C 9 dX3_findFirst_4 (by decide) (fun h4 => ?_) (fun h4 => ?_)
  · skip
    refine x_aload_n C dX3_findFirst_9 rfl ?_
    refine x_aload_n C dX3_findFirst_10 rfl ?_
    refine x_cV0 C yo_X1_put m_X3_106 rfl rfl (by first | assumption | exact Nat.one_pos) (c_X1_put l D dA base n ad I J R hT p0 i z hp hi hs hz) dX3_findFirst_11 rfl rfl (Nat.le_of_ble_eq_true rfl) ⟨by decide, by decide⟩ ⟨by decide, by decide⟩ ?_
    refine x_iconst C 1 (by decide) dX3_findFirst_14 ?_
    exact x_iret C (po_i _ _ _ _ _ _) dX3_findFirst_15
  · skip
    exact absurd hq h4

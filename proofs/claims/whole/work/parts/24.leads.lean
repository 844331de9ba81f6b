/-! the reference: who leads to a key; rings -/
/-- rows: r places of the key a hold w a 0 .. -/
def MRW (n : Nat) (I : Fi) (rs : Nat → Nat) (rw : Nat → Nat → Nat) : Prop := ∀ a, a < n → I 24 0 a = nI (rs a) ∧ rs a ≤ 8 ∧ ∀ i, i < rs a → I 25 0 (8 * a + i) = nI (rw a i) ∧ rw a i < n
/-- a comes to b by rows -/
def Rch (n : Nat) (rs : Nat → Nat) (rw : Nat → Nat → Nat) (a b : Nat) : Prop := ∀ P : Nat → Prop, P b → (∀ x i, x < n → i < rs x → P (rw x i) → P x) → P a
/-- but for the leads of the keys all is as it was; those are 0 or 1 -/
def LDs (n : Nat) (I I1 : Fi) : Prop := (∀ c b d, ¬ (c = 44 ∧ b = 0 ∧ d < n) → I1 c b d = I c b d) ∧ ∀ d, d < n → I1 44 0 d = 0 ∨ I1 44 0 d = 1
def LIn (n : Nat) (rs : Nat → Nat) (rw : Nat → Nat → Nat) (k : Nat) (I I1 : Fi) : Prop := LDs n I I1 ∧ I1 44 0 k = 1 ∧ ∀ q, q < n → I1 44 0 q = 1 → Rch n rs rw q k
def FLD (n : Nat) (rs : Nat → Nat) (rw : Nat → Nat → Nat) (k : Nat) (I I1 : Fi) : Prop := LDs n I I1 ∧ ∀ q, q < n → (I1 44 0 q = 1 ↔ Rch n rs rw q k)
def cnt (I : Fi) : Nat → Nat
  | 0 => 0
  | t + 1 => cnt I t + (if I 44 0 t = 0 then 1 else 0)
theorem cnt_le (I : Fi) (q : Nat) : ∀ t, cnt (up3 I 44 0 q 1) t ≤ cnt I t
  | 0 => Nat.le_refl _
  | t + 1 => by
    have h := cnt_le I q t
    by_cases hq : t = q
    · subst hq
      simp only [cnt, up3_s]
      have : (if (1 : Int32) = 0 then 1 else 0) = 0 := rfl
      omega
    · simp only [cnt, up3_k _ _ _ _ _ hq]
      omega
theorem cnt_lt (I : Fi) (q : Nat) (h0 : I 44 0 q = 0) : ∀ t, q < t → cnt (up3 I 44 0 q 1) t < cnt I t
  | 0, h => absurd h (Nat.not_lt_zero _)
  | t + 1, h => by
    by_cases hq : t = q
    · subst hq
      have h2 := cnt_le I t t
      simp only [cnt, up3_s, h0, if_true]
      have : (if (1 : Int32) = 0 then 1 else 0) = 0 := rfl
      omega
    · have h2 := cnt_lt I q h0 t (by omega)
      simp only [cnt, up3_k _ _ _ _ _ hq]
      omega
def ld0 (I : Fi) (k t : Nat) : Fi := fun c b d => if c = 44 ∧ b = 0 ∧ d < t then (if d = k then 1 else 0) else I c b d
theorem ld0_s (I : Fi) (k t : Nat) : up3 (ld0 I k t) 44 0 t (if t = k then 1 else 0) = ld0 I k (t + 1) := by
  funext c b d
  by_cases h : c = 44 ∧ b = 0
  · obtain ⟨rfl, rfl⟩ := h
    by_cases hd : d = t
    · subst hd; simp [up3, ld0]
    · rw [up3_k _ _ _ _ _ hd]
      by_cases h2 : d < t
      · simp [ld0, h2, Nat.lt_succ_of_lt h2]
      · simp [ld0, h2, show ¬ d < t + 1 by omega]
  · rw [up3_n _ _ _ _ _ (fun z => h ⟨z.1, z.2.1⟩)]
    simp only [ld0]
    rw [if_neg (fun z => h ⟨z.1, z.2.1⟩), if_neg (fun z => h ⟨z.1, z.2.1⟩)]
theorem Rch.refl {n : Nat} {rs : Nat → Nat} {rw : Nat → Nat → Nat} (a : Nat) : Rch n rs rw a a := fun _ h _ => h
theorem Rch.step {n : Nat} {rs : Nat → Nat} {rw : Nat → Nat → Nat} {a b i : Nat} (ha : a < n) (hi : i < rs a) (h : Rch n rs rw (rw a i) b) : Rch n rs rw a b := fun P hb hs => hs a i ha hi (h P hb hs)
theorem ld0_in {n : Nat} {rs : Nat → Nat} {rw : Nat → Nat → Nat} {k : Nat} {I : Fi} (hk : k < n) : LIn n rs rw k I (ld0 I k n) := by
  refine ⟨⟨fun c b d h => by simp only [ld0, if_neg h], fun d hd => ?_⟩, by simp [ld0, hk], fun q hq h => ?_⟩
  · simp only [ld0, hd, and_self, if_true]
    by_cases h : d = k
    · rw [if_pos h]; exact Or.inr rfl
    · rw [if_neg h]; exact Or.inl rfl
  · simp only [ld0, hq, and_self, if_true] at h
    by_cases h2 : q = k
    · subst h2; exact Rch.refl q
    · rw [if_neg h2] at h; exact absurd h (by decide)
theorem LIn.add {n : Nat} {rs : Nat → Nat} {rw : Nat → Nat → Nat} {k : Nat} {I I1 : Fi} (h : LIn n rs rw k I I1) {q i : Nat} (hq : q < n) (hi : i < rs q) (hw : rw q i < n) (h1 : I1 44 0 (rw q i) = 1) : LIn n rs rw k I (up3 I1 44 0 q 1) := by
  refine ⟨⟨fun c b d hc => ?_, fun d hd => ?_⟩, ?_, fun q2 hq2 h2 => ?_⟩
  · rw [up3_n _ _ _ _ _ (fun z => hc ⟨z.1, z.2.1, by omega⟩)]; exact h.1.1 c b d hc
  · by_cases hdq : d = q
    · subst hdq; rw [up3_s]; exact Or.inr rfl
    · rw [up3_k _ _ _ _ _ hdq]; exact h.1.2 d hd
  · by_cases hdq : k = q
    · rw [hdq, up3_s]
    · rw [up3_k _ _ _ _ _ hdq]; exact h.2.1
  · by_cases hdq : q2 = q
    · subst hdq; exact Rch.step hq hi (h.2.2 _ hw h1)
    · rw [up3_k _ _ _ _ _ hdq] at h2; exact h.2.2 q2 hq2 h2
theorem LIn.fin {n : Nat} {rs : Nat → Nat} {rw : Nat → Nat → Nat} {k : Nat} {I I1 : Fi} (h : LIn n rs rw k I I1) (hk : k < n) (hc : ∀ q i, q < n → i < rs q → I1 44 0 (rw q i) = 1 → I1 44 0 q = 1) : FLD n rs rw k I I1 := ⟨h.1, fun q hq => ⟨h.2.2 q hq, fun hr => hr (fun x => I1 44 0 x = 1) h.2.1 (fun x i hx hi hw => hc x i hx hi hw)⟩⟩
set_option maxRecDepth 100000 in
set_option maxHeartbeats 4000000 in
theorem c_X4_fillLeads (l : Launch) (D : va_G) (dA : Nat → ClassId) (base n : Nat) (ad : Fa) (I : Fi) (J : Fj) (R : Fr) (hT : ST n R) (hM : MG n I) (k : Nat) (hk : k < n) (rs : Nat → Nat) (rw : Nat → Nat → Nat) (hW : MRW n I rs rw) : CT l D dA base yX4_fillLeads cX4_fillLeads 5 none 1 0 0 [.ref (ad 11 0), .int (nI k)] ad (Nn n) I J R (fun r a N2 I2 J2 R2 => r = none ∧ a = ad ∧ N2 = Nn n ∧ J2 = J ∧ R2 = R ∧ FLD n rs rw k I I2) := by
  refine CT.of 3 (L0 := [some (.ref (ad 11 0)), some (.int (nI k)), none, none, none]) (by decide +kernel) rfl (Nat.le_of_ble_eq_true rfl) ?_
  intro p e s m args below meth c C
  have hn40 := hM.2
  have inner : ∀ (I0 : Fi) (q : Nat), q < n → (∀ I1 m2, LIn n rs rw k I I1 → ((m2 = 0 ∧ I1 = I0 ∧ (∀ q2 i2, q2 < q + 1 → i2 < rs q2 → I1 44 0 (rw q2 i2) = 1 → I1 44 0 q2 = 1)) ∨ (m2 = 1 ∧ cnt I1 n < cnt I0 n)) → GX p l e (rmX 1 0 0) s m args below meth c (MQ below (CQ D dA base (fun r a N2 I2 J2 R2 => r = none ∧ a = ad ∧ N2 = Nn n ∧ J2 = J ∧ R2 = R ∧ FLD n rs rw k I I2)) args s 0 0 (fun q => base ≤ q)) D dA base 5 ad (Nn n) I1 J R 0 0 106 [some (.ref (ad 11 0)), some (.int (nI k)), some (.int m2), some (.int (nI q)), none] []) → ∀ (g i : Nat), i + g = rs q → ∀ (I1 : Fi) (m2 : Int32), LIn n rs rw k I I1 → ((m2 = 0 ∧ I1 = I0 ∧ (∀ q2 i2, q2 < q → i2 < rs q2 → I1 44 0 (rw q2 i2) = 1 → I1 44 0 q2 = 1) ∧ ∀ i2, i2 < i → I1 44 0 (rw q i2) = 1 → I1 44 0 q = 1) ∨ (m2 = 1 ∧ cnt I1 n < cnt I0 n)) → GX p l e (rmX 1 0 0) s m args below meth c (MQ below (CQ D dA base (fun r a N2 I2 J2 R2 => r = none ∧ a = ad ∧ N2 = Nn n ∧ J2 = J ∧ R2 = R ∧ FLD n rs rw k I I2)) args s 0 0 (fun q => base ≤ q)) D dA base 5 ad (Nn n) I1 J R 0 0 53 [some (.ref (ad 11 0)), some (.int (nI k)), some (.int m2), some (.int (nI q)), some (.int (nI i))] [] := by
    intro I0 q hq kk g
    obtain ⟨hw1, hw2, hw3⟩ := hW q hq
    induction g with
    | zero =>
      intro i hig I1 m2 hL hst
      have h24 : I1 24 0 q = nI (rs q) := by rw [hL.1.1 _ _ _ (by omega)]; exact hw1
      refine x_iload C dX4_fillLeads_53 rfl ?_
      refine x_aload_n C dX4_fillLeads_55 rfl ?_
      refine x_getF C hT f_X4_13 rfl rfl (by first | assumption | exact Nat.one_pos) dX4_fillLeads_56 ?_
      refine x_iload_n C dX4_fillLeads_59 rfl ?_
      refine x_ialdN C (q) rfl rfl rfl (by first | assumption | exact Nat.one_pos) (by omega) (by decide) dX4_fillLeads_60 ?_
      refine x_icmp_ge C 106 dX4_fillLeads_61 (by decide) (fun h61 => ?_) (fun h61 => ?_)
      · skip
        refine x_drop 4 rfl (kk I1 m2 hL ?_)
        exact hst.elim (fun z => Or.inl ⟨z.1, z.2.1, fun q2 i2 h1 h2 h3 => (Nat.lt_succ_iff_lt_or_eq.mp h1).elim (fun w => z.2.2.1 q2 i2 w h2 h3) (fun w => by subst w; exact z.2.2.2 i2 (by omega) h3)⟩) Or.inr
      · skip
        rw [h24] at h61
        exact absurd (nI_le (show rs q ≤ i by omega) (by omega)) h61
    | succ g ih =>
      intro i hig I1 m2 hL hst
      obtain ⟨hr1, hr2⟩ := hw3 i (by omega)
      have h24 : I1 24 0 q = nI (rs q) := by rw [hL.1.1 _ _ _ (by omega)]; exact hw1
      have h25 : I1 25 0 (8 * q + i) = nI (rw q i) := by rw [hL.1.1 _ _ _ (by omega)]; exact hr1
      refine x_iload C dX4_fillLeads_53 rfl ?_
      refine x_aload_n C dX4_fillLeads_55 rfl ?_
      refine x_getF C hT f_X4_13 rfl rfl (by first | assumption | exact Nat.one_pos) dX4_fillLeads_56 ?_
      refine x_iload_n C dX4_fillLeads_59 rfl ?_
      refine x_ialdN C (q) rfl rfl rfl (by first | assumption | exact Nat.one_pos) (by omega) (by decide) dX4_fillLeads_60 ?_
      refine x_icmp_ge C 106 dX4_fillLeads_61 (by decide) (fun h61 => ?_) (fun h61 => ?_)
      · skip
        rw [h24] at h61
        exact absurd h61 (nI_ge (show i < rs q by omega) (by omega))
      · skip
        refine x_aload_n C dX4_fillLeads_64 rfl ?_
        refine x_getF C hT f_X4_72 rfl rfl (by first | assumption | exact Nat.one_pos) dX4_fillLeads_65 ?_
        refine x_iload_n C dX4_fillLeads_68 rfl ?_
        refine x_zaldN C (q) rfl rfl rfl (by first | assumption | exact Nat.one_pos) (by omega) (by decide) dX4_fillLeads_69 ?_
        refine x_if_ne C 100 dX4_fillLeads_70 (by decide) (fun h70 => ?_) (fun h70 => ?_)
        · skip
          refine x_iinc C _ dX4_fillLeads_100 rfl rfl (by decide) rfl rfl ?_
          refine x_goto C 53 dX4_fillLeads_103 (by decide) ?_
          have hq1 : I1 44 0 q = 1 := (hL.1.2 q hq).elim (fun z => absurd z h70) id
          exact x_eqL (ih (i + 1) (by omega) I1 m2 hL (hst.elim (fun z => Or.inl ⟨z.1, z.2.1, z.2.2.1, fun i2 _ _ => hq1⟩) Or.inr)) rfl (by rw [← nI_1]; rfl) rfl rfl rfl rfl
        · skip
          refine x_aload_n C dX4_fillLeads_73 rfl ?_
          refine x_getF C hT f_X4_72 rfl rfl (by first | assumption | exact Nat.one_pos) dX4_fillLeads_74 ?_
          refine x_aload_n C dX4_fillLeads_77 rfl ?_
          refine x_iload_n C dX4_fillLeads_78 rfl ?_
          refine x_iload C dX4_fillLeads_79 rfl ?_
          refine x_cV1 C yo_X4_rowKey m_X4_97 rfl rfl (by first | assumption | exact Nat.one_pos) (c_X4_rowKey l D dA base n ad I1 J R hT q i (by omega) (by omega)) dX4_fillLeads_81 rfl rfl (Nat.le_of_ble_eq_true rfl) ⟨by decide, by decide⟩ ⟨by decide, by decide⟩ ?_
          rw [h25]
          refine x_zaldN C (rw q i) rfl rfl rfl (by first | assumption | exact Nat.one_pos) (by omega) (by decide) dX4_fillLeads_84 ?_
          refine x_if_ne C 91 dX4_fillLeads_85 (by decide) (fun h85 => ?_) (fun h85 => ?_)
          · skip
            refine x_aload_n C dX4_fillLeads_91 rfl ?_
            refine x_getF C hT f_X4_72 rfl rfl (by first | assumption | exact Nat.one_pos) dX4_fillLeads_92 ?_
            refine x_iload_n C dX4_fillLeads_95 rfl ?_
            refine x_iconst C 1 (by decide) dX4_fillLeads_96 ?_
            refine x_zastN C (q) rfl rfl rfl (by first | assumption | exact Nat.one_pos) (by omega) (by decide) (by first | exact Or.inl rfl | exact Or.inr rfl | assumption) dX4_fillLeads_97 ?_
            refine x_iconst C 1 (by decide) dX4_fillLeads_98 ?_
            refine x_istore_n C dX4_fillLeads_99 (by decide) rfl rfl ?_
            refine x_iinc C _ dX4_fillLeads_100 rfl rfl (by decide) rfl rfl ?_
            refine x_goto C 53 dX4_fillLeads_103 (by decide) ?_
            have hw1 : I1 44 0 (rw q i) = 1 := (hL.1.2 _ hr2).elim (fun z => absurd z h85) id
            have hlt := cnt_lt I1 q h70 n hq
            exact x_eqL (ih (i + 1) (by omega) (up3 I1 44 0 q 1) 1 (hL.add hq (by omega) hr2 hw1) (Or.inr ⟨rfl, hst.elim (fun z => by rw [← z.2.1]; exact hlt) (fun z => Nat.lt_trans hlt z.2)⟩)) rfl (by rw [← nI_1]; rfl) rfl rfl rfl rfl
          · skip
            refine x_goto C 100 dX4_fillLeads_88 (by decide) ?_
            refine x_iinc C _ dX4_fillLeads_100 rfl rfl (by decide) rfl rfl ?_
            refine x_goto C 53 dX4_fillLeads_103 (by decide) ?_
            exact x_eqL (ih (i + 1) (by omega) I1 m2 hL (hst.elim (fun z => Or.inl ⟨z.1, z.2.1, z.2.2.1, fun i2 h2 h3 => (Nat.lt_succ_iff_lt_or_eq.mp h2).elim (fun w => z.2.2.2 i2 w h3) (fun w => by subst w; rw [h85] at h3; exact absurd h3 (by decide))⟩) Or.inr)) rfl (by rw [← nI_1]; rfl) rfl rfl rfl rfl
  have mid : ∀ (I0 : Fi), (∀ I1 m2, LIn n rs rw k I I1 → ((m2 = 0 ∧ I1 = I0 ∧ ∀ q i, q < n → i < rs q → I1 44 0 (rw q i) = 1 → I1 44 0 q = 1) ∨ (m2 = 1 ∧ cnt I1 n < cnt I0 n)) → GX p l e (rmX 1 0 0) s m args below meth c (MQ below (CQ D dA base (fun r a N2 I2 J2 R2 => r = none ∧ a = ad ∧ N2 = Nn n ∧ J2 = J ∧ R2 = R ∧ FLD n rs rw k I I2)) args s 0 0 (fun q => base ≤ q)) D dA base 5 ad (Nn n) I1 J R 0 0 34 [some (.ref (ad 11 0)), some (.int (nI k)), some (.int m2), none, none] []) → ∀ (g q : Nat), q + g = n → ∀ (I1 : Fi) (m2 : Int32), LIn n rs rw k I I1 → ((m2 = 0 ∧ I1 = I0 ∧ (∀ q2 i2, q2 < q → i2 < rs q2 → I1 44 0 (rw q2 i2) = 1 → I1 44 0 q2 = 1)) ∨ (m2 = 1 ∧ cnt I1 n < cnt I0 n)) → GX p l e (rmX 1 0 0) s m args below meth c (MQ below (CQ D dA base (fun r a N2 I2 J2 R2 => r = none ∧ a = ad ∧ N2 = Nn n ∧ J2 = J ∧ R2 = R ∧ FLD n rs rw k I I2)) args s 0 0 (fun q => base ≤ q)) D dA base 5 ad (Nn n) I1 J R 0 0 42 [some (.ref (ad 11 0)), some (.int (nI k)), some (.int m2), some (.int (nI q)), none] [] := by
    intro I0 kk g
    induction g with
    | zero =>
      intro q hqg I1 m2 hL hst
      have h2 : I1 11 0 2 = nI n := by rw [hL.1.1 _ _ _ (by omega)]; exact hM.1
      refine x_iload_n C dX4_fillLeads_42 rfl ?_
      refine x_aload_n C dX4_fillLeads_43 rfl ?_
      refine x_getI C f_X4_79 rfl (by first | assumption | exact Nat.one_pos) dX4_fillLeads_44 ?_
      refine x_icmp_ge C 112 dX4_fillLeads_47 (by decide) (fun h47 => ?_) (fun h47 => ?_)
      · skip
        refine x_goto C 34 dX4_fillLeads_112 (by decide) ?_
        refine x_drop 3 rfl (kk I1 m2 hL ?_)
        exact hst.elim (fun z => Or.inl ⟨z.1, z.2.1, fun q2 i2 h1 h2 h3 => z.2.2 q2 i2 (by omega) h2 h3⟩) Or.inr
      · skip
        rw [h2] at h47
        exact absurd (nI_le (show n ≤ q by omega) (by omega)) h47
    | succ g ih =>
      intro q hqg I1 m2 hL hst
      have h2 : I1 11 0 2 = nI n := by rw [hL.1.1 _ _ _ (by omega)]; exact hM.1
      refine x_iload_n C dX4_fillLeads_42 rfl ?_
      refine x_aload_n C dX4_fillLeads_43 rfl ?_
      refine x_getI C f_X4_79 rfl (by first | assumption | exact Nat.one_pos) dX4_fillLeads_44 ?_
      refine x_icmp_ge C 112 dX4_fillLeads_47 (by decide) (fun h47 => ?_) (fun h47 => ?_)
      · skip
        rw [h2] at h47
        exact absurd h47 (nI_ge (show q < n by omega) (by omega))
      · skip
        refine x_iconst C 0 (by decide) dX4_fillLeads_50 ?_
        refine x_istore C dX4_fillLeads_51 (by decide) rfl rfl ?_
        refine inner I0 q (by omega) ?_ (rs q) 0 (by omega) I1 m2 hL (hst.elim (fun z => Or.inl ⟨z.1, z.2.1, z.2.2, fun i2 h => absurd h (Nat.not_lt_zero _)⟩) Or.inr)
        intro I2 m3 hL2 hst2
        refine x_iinc C _ dX4_fillLeads_106 rfl rfl (by decide) rfl rfl ?_
        refine x_goto C 42 dX4_fillLeads_109 (by decide) ?_
        exact x_eqL (ih (q + 1) (by omega) I2 m3 hL2 hst2) rfl (by rw [← nI_1]; rfl) rfl rfl rfl rfl
  have outer : ∀ (g : Nat) (I0 : Fi), cnt I0 n ≤ g → LIn n rs rw k I I0 → GX p l e (rmX 1 0 0) s m args below meth c (MQ below (CQ D dA base (fun r a N2 I2 J2 R2 => r = none ∧ a = ad ∧ N2 = Nn n ∧ J2 = J ∧ R2 = R ∧ FLD n rs rw k I I2)) args s 0 0 (fun q => base ≤ q)) D dA base 5 ad (Nn n) I0 J R 0 0 34 [some (.ref (ad 11 0)), some (.int (nI k)), some (.int 1), none, none] [] := by
    intro g
    induction g with
    | zero =>
      intro I0 hg hL
      refine x_iload_n C dX4_fillLeads_34 rfl ?_
      refine x_if_eq C 115 dX4_fillLeads_35 (by decide) (fun h35 => ?_) (fun h35 => ?_)
      · skip
        exact absurd h35 (by decide)
      · skip
        refine x_iconst C 0 (by decide) dX4_fillLeads_38 ?_
        refine x_istore_n C dX4_fillLeads_39 (by decide) rfl rfl ?_
        refine x_iconst C 0 (by decide) dX4_fillLeads_40 ?_
        refine x_istore_n C dX4_fillLeads_41 (by decide) rfl rfl ?_
        refine mid I0 ?_ n 0 (by omega) I0 0 hL (Or.inl ⟨rfl, rfl, fun q2 i2 h => absurd h (Nat.not_lt_zero _)⟩)
        intro I1 m2 hL1 hst1
        rcases hst1 with ⟨rfl, rfl, hcl⟩ | ⟨rfl, hlt⟩
        · skip
          refine x_iload_n C dX4_fillLeads_34 rfl ?_
          refine x_if_eq C 115 dX4_fillLeads_35 (by decide) (fun h35 => ?_) (fun h35 => ?_)
          · skip
            exact x_vret C (⟨rfl, rfl, rfl, rfl, rfl, hL1.fin hk hcl⟩) dX4_fillLeads_115
          · skip
            exact absurd rfl h35
        · omega
    | succ g ih =>
      intro I0 hg hL
      refine x_iload_n C dX4_fillLeads_34 rfl ?_
      refine x_if_eq C 115 dX4_fillLeads_35 (by decide) (fun h35 => ?_) (fun h35 => ?_)
      · skip
        exact absurd h35 (by decide)
      · skip
        refine x_iconst C 0 (by decide) dX4_fillLeads_38 ?_
        refine x_istore_n C dX4_fillLeads_39 (by decide) rfl rfl ?_
        refine x_iconst C 0 (by decide) dX4_fillLeads_40 ?_
        refine x_istore_n C dX4_fillLeads_41 (by decide) rfl rfl ?_
        refine mid I0 ?_ n 0 (by omega) I0 0 hL (Or.inl ⟨rfl, rfl, fun q2 i2 h => absurd h (Nat.not_lt_zero _)⟩)
        intro I1 m2 hL1 hst1
        rcases hst1 with ⟨rfl, rfl, hcl⟩ | ⟨rfl, hlt⟩
        · skip
          refine x_iload_n C dX4_fillLeads_34 rfl ?_
          refine x_if_eq C 115 dX4_fillLeads_35 (by decide) (fun h35 => ?_) (fun h35 => ?_)
          · skip
            exact x_vret C (⟨rfl, rfl, rfl, rfl, rfl, hL1.fin hk hcl⟩) dX4_fillLeads_115
          · skip
            exact absurd rfl h35
        · exact ih I1 (by omega) hL1
  have first : ∀ (g t : Nat), t + g = n → GX p l e (rmX 1 0 0) s m args below meth c (MQ below (CQ D dA base (fun r a N2 I2 J2 R2 => r = none ∧ a = ad ∧ N2 = Nn n ∧ J2 = J ∧ R2 = R ∧ FLD n rs rw k I I2)) args s 0 0 (fun q => base ≤ q)) D dA base 5 ad (Nn n) (ld0 I k t) J R 0 0 2 [some (.ref (ad 11 0)), some (.int (nI k)), some (.int (nI t)), none, none] [] := by
    intro g
    have h2 : ∀ t, ld0 I k t 11 0 2 = nI n := fun t => by simp [ld0, hM.1]
    induction g with
    | zero =>
      intro t ht
      have ht2 : t = n := by omega
      refine x_iload_n C dX4_fillLeads_2 rfl ?_
      refine x_aload_n C dX4_fillLeads_3 rfl ?_
      refine x_getI C f_X4_79 rfl (by first | assumption | exact Nat.one_pos) dX4_fillLeads_4 ?_
      refine x_icmp_ge C 32 dX4_fillLeads_7 (by decide) (fun h7 => ?_) (fun h7 => ?_)
      · skip
        refine x_iconst C 1 (by decide) dX4_fillLeads_32 ?_
        refine x_istore_n C dX4_fillLeads_33 (by decide) rfl rfl ?_
        exact x_eqL (outer (cnt (ld0 I k n) n) (ld0 I k n) (Nat.le_refl _) (ld0_in hk)) rfl rfl rfl (by rw [ht2]) rfl rfl
      · skip
        rw [h2, ht2] at h7
        exact absurd (Int32.le_refl _) h7
    | succ g ih =>
      intro t ht
      refine x_iload_n C dX4_fillLeads_2 rfl ?_
      refine x_aload_n C dX4_fillLeads_3 rfl ?_
      refine x_getI C f_X4_79 rfl (by first | assumption | exact Nat.one_pos) dX4_fillLeads_4 ?_
      refine x_icmp_ge C 32 dX4_fillLeads_7 (by decide) (fun h7 => ?_) (fun h7 => ?_)
      · skip
        rw [h2] at h7
        exact absurd h7 (nI_ge (show t < n by omega) (by omega))
      · skip
        refine x_aload_n C dX4_fillLeads_10 rfl ?_
        refine x_getF C hT f_X4_72 rfl rfl (by first | assumption | exact Nat.one_pos) dX4_fillLeads_11 ?_
        refine x_iload_n C dX4_fillLeads_14 rfl ?_
        refine x_iload_n C dX4_fillLeads_15 rfl ?_
        refine x_iload_n C dX4_fillLeads_16 rfl ?_
        refine x_icmp_ne C 24 dX4_fillLeads_17 (by decide) (fun h17 => ?_) (fun h17 => ?_)
        · skip
          have q17 : ¬ t = k := fun z => h17 (by rw [z])
          refine x_iconst C 0 (by decide) dX4_fillLeads_24 ?_
          refine x_zastN C (t) rfl rfl rfl (by first | assumption | exact Nat.one_pos) (by omega) (by decide) (by first | exact Or.inl rfl | exact Or.inr rfl | assumption) dX4_fillLeads_25 ?_
          refine x_iinc C _ dX4_fillLeads_26 rfl rfl (by decide) rfl rfl ?_
          refine x_goto C 2 dX4_fillLeads_29 (by decide) ?_
          exact x_eqL (ih (t + 1) (by omega)) rfl (by rw [← nI_1]; rfl) rfl (by rw [← ld0_s, if_neg q17]) rfl rfl
        · skip
          have q17 : t = k := (nI_eq (by omega) (by omega)).mp h17
          refine x_iconst C 1 (by decide) dX4_fillLeads_20 ?_
          refine x_goto C 25 dX4_fillLeads_21 (by decide) ?_
          refine x_zastN C (t) rfl rfl rfl (by first | assumption | exact Nat.one_pos) (by omega) (by decide) (by first | exact Or.inl rfl | exact Or.inr rfl | assumption) dX4_fillLeads_25 ?_
          refine x_iinc C _ dX4_fillLeads_26 rfl rfl (by decide) rfl rfl ?_
          refine x_goto C 2 dX4_fillLeads_29 (by decide) ?_
          exact x_eqL (ih (t + 1) (by omega)) rfl (by rw [← nI_1]; rfl) rfl (by rw [← ld0_s, if_pos q17]) rfl rfl
  have h00 : ld0 I k 0 = I := by funext c b d; simp [ld0]
  refine x_iconst C 0 (by decide) dX4_fillLeads_0 ?_
  refine x_istore_n C dX4_fillLeads_1 (by decide) rfl rfl ?_
  exact x_eqL (first n 0 (by omega)) rfl rfl rfl h00.symm rfl rfl

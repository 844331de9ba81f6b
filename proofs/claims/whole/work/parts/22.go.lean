/-! the reference: steps -/
def eaS (I : Fi) (k e0 : Nat) : Nat → Fi
  | 0 => I
  | t + 1 => up3 (eaS I k e0 t) 31 0 (8 * k + t) (I 40 0 (8 * e0 + t))
theorem eaS_o (I : Fi) (k e0 : Nat) {c b d : Nat} (h : ¬ c = 31) : ∀ t, eaS I k e0 t c b d = I c b d
  | 0 => rfl
  | t + 1 => by rw [eaS, up3_c _ _ _ _ _ h, eaS_o I k e0 h t]
def meA (I : Fi) (J : Fj) (k a : Nat) (x : Int32) (v : Int64) : Fi := up3 (up3 (up3 (up3 (up3 I 28 0 k (if ¬ I 36 0 k = 0 ∧ I 26 0 k = x ∧ (¬ x = 1 ∨ J 34 0 k = v) then I 28 0 k else I 11 0 1)) 26 0 k x) 36 0 k 1) 27 0 k (I 11 0 1)) 30 0 k (nI a)
def meI (I : Fi) (J : Fj) (p0 z k a : Nat) (x : Int32) (v : Int64) : Fi := up3 (up3 (eaS (meA I J k a x v) k (40 * p0 + z) a) 32 0 k (I 32 0 k + 1)) 37 0 p0 (nI z)
set_option maxRecDepth 100000 in
set_option maxHeartbeats 4000000 in
theorem c_X4_end_v (l : Launch) (D : va_G) (dA : Nat → ClassId) (base n : Nat) (ad : Fa) (I : Fi) (J : Fj) (R : Fr) (hT : ST n R) (p0 z k a : Nat) (hp : p0 < 5) (hz : z < 40) (hs : I 37 0 p0 = nI (z + 1)) (hk : k < 40) (hon : I 38 0 (40 * p0 + z) = nI k) (hfar : I 39 0 (40 * p0 + z) = nI a) (ha8 : a ≤ 8) (v : Int64) : CT l D dA base yX4_end cX4_end 9 (some .int) 0 0 0 [.ref (ad 11 0), .int (nI p0), .int 1, .long v] ad (Nn n) I J R (po (some (.int 2)) ad (Nn n) (meI I J p0 z k a 1 v) (up3 J 34 0 k v) R) := by
  refine CT.of 4 (L0 := [some (.ref (ad 11 0)), some (.int (nI p0)), some (.int 1), some (.long v), none, none, none, none, none]) (by decide +kernel) rfl (Nat.le_of_ble_eq_true rfl) ?_
  intro p e s m args below meth c C
  have he : 40 * p0 + z < 200 := by omega
  have loop : ∀ (g t : Nat), t + g = a → GX p l e (rmX 0 0 0) s m args below meth c (MQ below (CQ D dA base (po (some (.int 2)) ad (Nn n) (meI I J p0 z k a 1 v) (up3 J 34 0 k v) R)) args s 0 0 (fun q => base ≤ q)) D dA base 9 ad (Nn n) (eaS (meA I J k a 1 v) k (40 * p0 + z) t) (up3 J 34 0 k v) R 0 0 147 [some (.ref (ad 11 0)), some (.int (nI p0)), some (.int 1), some (.long v), none, some (.int (nI (40 * p0 + z))), some (.int (nI k)), none, some (.int (nI t))] [] := by
    intro g
    have hf1 : ∀ t, eaS (meA I J k a 1 v) k (40 * p0 + z) t 39 0 (40 * p0 + z) = nI a := fun t => by rw [eaS_o _ _ _ (by decide)]; simp [meA, up3, hfar]
    have hf4 : ∀ t q, eaS (meA I J k a 1 v) k (40 * p0 + z) t 40 0 q = meA I J k a 1 v 40 0 q := fun t q => by rw [eaS_o _ _ _ (by decide)]
    induction g with
    | zero =>
      intro t ht
      have ht2 : t = a := by omega
      subst ht2
      have h32 : eaS (meA I J k t 1 v) k (40 * p0 + z) t 32 0 k = I 32 0 k := by rw [eaS_o _ _ _ (by decide)]; simp [meA, up3]
      have h37 : eaS (meA I J k t 1 v) k (40 * p0 + z) t 37 0 p0 = nI (z + 1) := by rw [eaS_o _ _ _ (by decide)]; simp [meA, up3, hs]
      refine x_iload C dX4_end_147 rfl ?_
      refine x_aload_n C dX4_end_149 rfl ?_
      refine x_getF C hT f_X4_60 rfl rfl (by first | assumption | exact Nat.one_pos) dX4_end_150 ?_
      refine x_iload C dX4_end_153 rfl ?_
      refine x_ialdN C (40 * p0 + z) rfl rfl rfl (by first | assumption | exact Nat.one_pos) he (by decide) dX4_end_155 ?_
      refine x_icmp_ge C 191 dX4_end_156 (by decide) (fun h156 => ?_) (fun h156 => ?_)
      · skip
        refine x_aload_n C dX4_end_191 rfl ?_
        refine x_getF C hT f_X4_37 rfl rfl (by first | assumption | exact Nat.one_pos) dX4_end_192 ?_
        refine x_iload C dX4_end_195 rfl ?_
        refine x_dup2 C rfl rfl dX4_end_197 ?_
        refine x_ialdN C (k) rfl rfl rfl (by first | assumption | exact Nat.one_pos) hk (by decide) dX4_end_198 ?_
        rw [h32]
        refine x_iconst C 1 (by decide) dX4_end_199 ?_
        refine x_iadd C dX4_end_200 ?_
        refine x_iastN C (k) rfl rfl rfl (by first | assumption | exact Nat.one_pos) hk (by decide) dX4_end_201 ?_
        refine x_aload_n C dX4_end_202 rfl ?_
        refine x_getF C hT f_X4_54 rfl rfl (by first | assumption | exact Nat.one_pos) dX4_end_203 ?_
        refine x_iload_n C dX4_end_206 rfl ?_
        refine x_dup2 C rfl rfl dX4_end_207 ?_
        refine x_ialdN C (p0) rfl rfl rfl (by first | assumption | exact Nat.one_pos) hp (by decide) dX4_end_208 ?_
        rw [up3_c _ _ _ _ _ (by decide), h37]
        refine x_iconst C 1 (by decide) dX4_end_209 ?_
        refine x_isub C dX4_end_210 ?_
        rw [nI_pred]
        refine x_iastN C (p0) rfl rfl rfl (by first | assumption | exact Nat.one_pos) hp (by decide) dX4_end_211 ?_
        refine x_iconst C 2 (by decide) dX4_end_212 ?_
        exact x_iret C (po_i _ _ _ _ _ _) dX4_end_213
      · skip
        rw [hf1] at h156
        exact absurd (Int32.le_refl _) h156
    | succ g ih =>
      intro t ht
      refine x_iload C dX4_end_147 rfl ?_
      refine x_aload_n C dX4_end_149 rfl ?_
      refine x_getF C hT f_X4_60 rfl rfl (by first | assumption | exact Nat.one_pos) dX4_end_150 ?_
      refine x_iload C dX4_end_153 rfl ?_
      refine x_ialdN C (40 * p0 + z) rfl rfl rfl (by first | assumption | exact Nat.one_pos) he (by decide) dX4_end_155 ?_
      refine x_icmp_ge C 191 dX4_end_156 (by decide) (fun h156 => ?_) (fun h156 => ?_)
      · skip
        rw [hf1] at h156
        exact absurd h156 (nI_ge (show t < a by omega) (by omega))
      · skip
        refine x_aload_n C dX4_end_159 rfl ?_
        refine x_getF C hT f_X4_34 rfl rfl (by first | assumption | exact Nat.one_pos) dX4_end_160 ?_
        refine x_bipush C 8 (by decide) dX4_end_163 ?_
        refine x_iload C dX4_end_165 rfl ?_
        refine x_imul C dX4_end_167 ?_
        refine x_iload C dX4_end_168 rfl ?_
        refine x_iadd C dX4_end_170 ?_
        refine x_aload_n C dX4_end_171 rfl ?_
        refine x_getF C hT f_X4_63 rfl rfl (by first | assumption | exact Nat.one_pos) dX4_end_172 ?_
        refine x_bipush C 8 (by decide) dX4_end_175 ?_
        refine x_iload C dX4_end_177 rfl ?_
        refine x_imul C dX4_end_179 ?_
        refine x_iload C dX4_end_180 rfl ?_
        refine x_iadd C dX4_end_182 ?_
        refine x_ialdN C (8 * (40 * p0 + z) + t) (ix8 (40 * p0 + z) t) rfl rfl (by first | assumption | exact Nat.one_pos) (by omega) (by decide) dX4_end_183 ?_
        rw [hf4]
        refine x_iastN C (8 * k + t) (ix8 k t) rfl rfl (by first | assumption | exact Nat.one_pos) (by omega) (by decide) dX4_end_184 ?_
        refine x_iinc C _ dX4_end_185 rfl rfl (by decide) rfl rfl ?_
        refine x_goto C 147 dX4_end_188 (by decide) ?_
        exact x_eqL (ih (t + 1) (by omega)) rfl (by rw [← nI_1]; rfl) rfl rfl rfl rfl
  refine x_bipush C 40 (by decide) dX4_end_0 ?_
  refine x_iload_n C dX4_end_2 rfl ?_
  refine x_imul C dX4_end_3 ?_
  refine x_aload_n C dX4_end_4 rfl ?_
  refine x_getF C hT f_X4_54 rfl rfl (by first | assumption | exact Nat.one_pos) dX4_end_5 ?_
  refine x_iload_n C dX4_end_8 rfl ?_
  refine x_ialdN C (p0) rfl rfl rfl (by first | assumption | exact Nat.one_pos) hp (by decide) dX4_end_9 ?_
  try simp only [up3_r, Nat.reduceEqDiff, and_false, false_and, and_self, and_true, true_and, reduceIte]
  refine x_iadd C dX4_end_10 ?_
  refine x_iconst C 1 (by decide) dX4_end_11 ?_
  refine x_isub C dX4_end_12 ?_
  rw [hs, ix40, show 40 * p0 + (z + 1) = (40 * p0 + z) + 1 from rfl, nI_pred]
  refine x_istore C dX4_end_13 (by decide) rfl rfl ?_
  refine x_aload_n C dX4_end_15 rfl ?_
  refine x_getF C hT f_X4_57 rfl rfl (by first | assumption | exact Nat.one_pos) dX4_end_16 ?_
  refine x_iload C dX4_end_19 rfl ?_
  refine x_ialdN C (40 * p0 + z) rfl rfl rfl (by first | assumption | exact Nat.one_pos) he (by decide) dX4_end_21 ?_
  try simp only [up3_r, Nat.reduceEqDiff, and_false, false_and, and_self, and_true, true_and, reduceIte]
  rw [hon]
  refine x_istore C dX4_end_22 (by decide) rfl rfl ?_
  refine x_aload_n C dX4_end_24 rfl ?_
  refine x_getF C hT f_X4_51 rfl rfl (by first | assumption | exact Nat.one_pos) dX4_end_25 ?_
  refine x_iload C dX4_end_28 rfl ?_
  refine x_zaldN C (k) rfl rfl rfl (by first | assumption | exact Nat.one_pos) hk (by decide) dX4_end_30 ?_
  try simp only [up3_r, Nat.reduceEqDiff, and_false, false_and, and_self, and_true, true_and, reduceIte]
  refine x_if_eq C 66 dX4_end_31 (by decide) (fun h31 => ?_) (fun h31 => ?_)
  · skip
    refine x_iconst C 0 (by decide) dX4_end_66 ?_
    refine x_istore C dX4_end_67 (by decide) rfl rfl ?_
    refine x_aload_n C dX4_end_69 rfl ?_
    refine x_getF C hT f_X4_25 rfl rfl (by first | assumption | exact Nat.one_pos) dX4_end_70 ?_
    refine x_iload C dX4_end_73 rfl ?_
    refine x_iload C dX4_end_75 rfl ?_
    refine x_if_eq C 90 dX4_end_77 (by decide) (fun h77 => ?_) (fun h77 => ?_)
    · skip
      refine x_aload_n C dX4_end_90 rfl ?_
      refine x_getI C f_X4_86 rfl (by first | assumption | exact Nat.one_pos) dX4_end_91 ?_
      try simp only [up3_r, Nat.reduceEqDiff, and_false, false_and, and_self, and_true, true_and, reduceIte]
      refine x_iastN C (k) rfl rfl rfl (by first | assumption | exact Nat.one_pos) hk (by decide) dX4_end_94 ?_
      refine x_aload_n C dX4_end_95 rfl ?_
      refine x_getF C hT f_X4_19 rfl rfl (by first | assumption | exact Nat.one_pos) dX4_end_96 ?_
      refine x_iload C dX4_end_99 rfl ?_
      refine x_iload_n C dX4_end_101 rfl ?_
      refine x_iastN C (k) rfl rfl rfl (by first | assumption | exact Nat.one_pos) hk (by decide) dX4_end_102 ?_
      refine x_aload_n C dX4_end_103 rfl ?_
      refine x_getF C hT f_X4_43 rfl rfl (by first | assumption | exact Nat.one_pos) dX4_end_104 ?_
      refine x_iload C dX4_end_107 rfl ?_
      refine x_lload_n C dX4_end_109 rfl ?_
      refine x_lastN C (k) rfl rfl rfl (by first | assumption | exact Nat.one_pos) hk (by decide) dX4_end_110 ?_
      refine x_aload_n C dX4_end_111 rfl ?_
      refine x_getF C hT f_X4_51 rfl rfl (by first | assumption | exact Nat.one_pos) dX4_end_112 ?_
      refine x_iload C dX4_end_115 rfl ?_
      refine x_iconst C 1 (by decide) dX4_end_117 ?_
      refine x_zastN C (k) rfl rfl rfl (by first | assumption | exact Nat.one_pos) hk (by decide) (by first | exact Or.inl rfl | exact Or.inr rfl | assumption) dX4_end_118 ?_
      refine x_aload_n C dX4_end_119 rfl ?_
      refine x_getF C hT f_X4_22 rfl rfl (by first | assumption | exact Nat.one_pos) dX4_end_120 ?_
      refine x_iload C dX4_end_123 rfl ?_
      refine x_aload_n C dX4_end_125 rfl ?_
      refine x_getI C f_X4_86 rfl (by first | assumption | exact Nat.one_pos) dX4_end_126 ?_
      try simp only [up3_r, Nat.reduceEqDiff, and_false, false_and, and_self, and_true, true_and, reduceIte]
      refine x_iastN C (k) rfl rfl rfl (by first | assumption | exact Nat.one_pos) hk (by decide) dX4_end_129 ?_
      refine x_aload_n C dX4_end_130 rfl ?_
      refine x_getF C hT f_X4_31 rfl rfl (by first | assumption | exact Nat.one_pos) dX4_end_131 ?_
      refine x_iload C dX4_end_134 rfl ?_
      refine x_aload_n C dX4_end_136 rfl ?_
      refine x_getF C hT f_X4_60 rfl rfl (by first | assumption | exact Nat.one_pos) dX4_end_137 ?_
      refine x_iload C dX4_end_140 rfl ?_
      refine x_ialdN C (40 * p0 + z) rfl rfl rfl (by first | assumption | exact Nat.one_pos) he (by decide) dX4_end_142 ?_
      try simp only [up3_r, Nat.reduceEqDiff, and_false, false_and, and_self, and_true, true_and, reduceIte]
      rw [hfar]
      refine x_iastN C (k) rfl rfl rfl (by first | assumption | exact Nat.one_pos) hk (by decide) dX4_end_143 ?_
      refine x_iconst C 0 (by decide) dX4_end_144 ?_
      refine x_istore C dX4_end_145 (by decide) rfl rfl ?_
      refine x_drop 7 rfl ?_
      exact x_eqL (loop a 0 (by omega)) rfl rfl rfl (by rw [eaS, meA, if_neg (fun q => q.1 h31)]) rfl rfl
    · skip
      exact absurd rfl h77
  · skip
    refine x_aload_n C dX4_end_34 rfl ?_
    refine x_getF C hT f_X4_19 rfl rfl (by first | assumption | exact Nat.one_pos) dX4_end_35 ?_
    refine x_iload C dX4_end_38 rfl ?_
    refine x_ialdN C (k) rfl rfl rfl (by first | assumption | exact Nat.one_pos) hk (by decide) dX4_end_40 ?_
    try simp only [up3_r, Nat.reduceEqDiff, and_false, false_and, and_self, and_true, true_and, reduceIte]
    refine x_iload_n C dX4_end_41 rfl ?_
    refine x_icmp_ne C 66 dX4_end_42 (by decide) (fun h42 => ?_) (fun h42 => ?_)
    · skip
      refine x_iconst C 0 (by decide) dX4_end_66 ?_
      refine x_istore C dX4_end_67 (by decide) rfl rfl ?_
      refine x_aload_n C dX4_end_69 rfl ?_
      refine x_getF C hT f_X4_25 rfl rfl (by first | assumption | exact Nat.one_pos) dX4_end_70 ?_
      refine x_iload C dX4_end_73 rfl ?_
      refine x_iload C dX4_end_75 rfl ?_
      refine x_if_eq C 90 dX4_end_77 (by decide) (fun h77 => ?_) (fun h77 => ?_)
      · skip
        refine x_aload_n C dX4_end_90 rfl ?_
        refine x_getI C f_X4_86 rfl (by first | assumption | exact Nat.one_pos) dX4_end_91 ?_
        try simp only [up3_r, Nat.reduceEqDiff, and_false, false_and, and_self, and_true, true_and, reduceIte]
        refine x_iastN C (k) rfl rfl rfl (by first | assumption | exact Nat.one_pos) hk (by decide) dX4_end_94 ?_
        refine x_aload_n C dX4_end_95 rfl ?_
        refine x_getF C hT f_X4_19 rfl rfl (by first | assumption | exact Nat.one_pos) dX4_end_96 ?_
        refine x_iload C dX4_end_99 rfl ?_
        refine x_iload_n C dX4_end_101 rfl ?_
        refine x_iastN C (k) rfl rfl rfl (by first | assumption | exact Nat.one_pos) hk (by decide) dX4_end_102 ?_
        refine x_aload_n C dX4_end_103 rfl ?_
        refine x_getF C hT f_X4_43 rfl rfl (by first | assumption | exact Nat.one_pos) dX4_end_104 ?_
        refine x_iload C dX4_end_107 rfl ?_
        refine x_lload_n C dX4_end_109 rfl ?_
        refine x_lastN C (k) rfl rfl rfl (by first | assumption | exact Nat.one_pos) hk (by decide) dX4_end_110 ?_
        refine x_aload_n C dX4_end_111 rfl ?_
        refine x_getF C hT f_X4_51 rfl rfl (by first | assumption | exact Nat.one_pos) dX4_end_112 ?_
        refine x_iload C dX4_end_115 rfl ?_
        refine x_iconst C 1 (by decide) dX4_end_117 ?_
        refine x_zastN C (k) rfl rfl rfl (by first | assumption | exact Nat.one_pos) hk (by decide) (by first | exact Or.inl rfl | exact Or.inr rfl | assumption) dX4_end_118 ?_
        refine x_aload_n C dX4_end_119 rfl ?_
        refine x_getF C hT f_X4_22 rfl rfl (by first | assumption | exact Nat.one_pos) dX4_end_120 ?_
        refine x_iload C dX4_end_123 rfl ?_
        refine x_aload_n C dX4_end_125 rfl ?_
        refine x_getI C f_X4_86 rfl (by first | assumption | exact Nat.one_pos) dX4_end_126 ?_
        try simp only [up3_r, Nat.reduceEqDiff, and_false, false_and, and_self, and_true, true_and, reduceIte]
        refine x_iastN C (k) rfl rfl rfl (by first | assumption | exact Nat.one_pos) hk (by decide) dX4_end_129 ?_
        refine x_aload_n C dX4_end_130 rfl ?_
        refine x_getF C hT f_X4_31 rfl rfl (by first | assumption | exact Nat.one_pos) dX4_end_131 ?_
        refine x_iload C dX4_end_134 rfl ?_
        refine x_aload_n C dX4_end_136 rfl ?_
        refine x_getF C hT f_X4_60 rfl rfl (by first | assumption | exact Nat.one_pos) dX4_end_137 ?_
        refine x_iload C dX4_end_140 rfl ?_
        refine x_ialdN C (40 * p0 + z) rfl rfl rfl (by first | assumption | exact Nat.one_pos) he (by decide) dX4_end_142 ?_
        try simp only [up3_r, Nat.reduceEqDiff, and_false, false_and, and_self, and_true, true_and, reduceIte]
        rw [hfar]
        refine x_iastN C (k) rfl rfl rfl (by first | assumption | exact Nat.one_pos) hk (by decide) dX4_end_143 ?_
        refine x_iconst C 0 (by decide) dX4_end_144 ?_
        refine x_istore C dX4_end_145 (by decide) rfl rfl ?_
        refine x_drop 7 rfl ?_
        exact x_eqL (loop a 0 (by omega)) rfl rfl rfl (by rw [eaS, meA, if_neg (fun q => h42 q.2.1)]) rfl rfl
      · skip
        exact absurd rfl h77
    · skip
      refine x_iload_n C dX4_end_45 rfl ?_
      refine x_iconst C 1 (by decide) dX4_end_46 ?_
      refine x_icmp_ne C 62 dX4_end_47 (by decide) (fun h47 => ?_) (fun h47 => ?_)
      · skip
        exact absurd rfl h47
      · skip
        refine x_aload_n C dX4_end_50 rfl ?_
        refine x_getF C hT f_X4_43 rfl rfl (by first | assumption | exact Nat.one_pos) dX4_end_51 ?_
        refine x_iload C dX4_end_54 rfl ?_
        refine x_laldN C (k) rfl rfl rfl (by first | assumption | exact Nat.one_pos) hk (by decide) dX4_end_56 ?_
        try simp only [up3_r, Nat.reduceEqDiff, and_false, false_and, and_self, and_true, true_and, reduceIte]
        refine x_lload_n C dX4_end_57 rfl ?_
        refine x_lcmp C dX4_end_58 ?_
        refine x_if_ne C 66 dX4_end_59 (by decide) (fun h59 => ?_) (fun h59 => ?_)
        · skip
          rw [lg_ne] at h59
          refine x_iconst C 0 (by decide) dX4_end_66 ?_
          refine x_istore C dX4_end_67 (by decide) rfl rfl ?_
          refine x_aload_n C dX4_end_69 rfl ?_
          refine x_getF C hT f_X4_25 rfl rfl (by first | assumption | exact Nat.one_pos) dX4_end_70 ?_
          refine x_iload C dX4_end_73 rfl ?_
          refine x_iload C dX4_end_75 rfl ?_
          refine x_if_eq C 90 dX4_end_77 (by decide) (fun h77 => ?_) (fun h77 => ?_)
          · skip
            refine x_aload_n C dX4_end_90 rfl ?_
            refine x_getI C f_X4_86 rfl (by first | assumption | exact Nat.one_pos) dX4_end_91 ?_
            try simp only [up3_r, Nat.reduceEqDiff, and_false, false_and, and_self, and_true, true_and, reduceIte]
            refine x_iastN C (k) rfl rfl rfl (by first | assumption | exact Nat.one_pos) hk (by decide) dX4_end_94 ?_
            refine x_aload_n C dX4_end_95 rfl ?_
            refine x_getF C hT f_X4_19 rfl rfl (by first | assumption | exact Nat.one_pos) dX4_end_96 ?_
            refine x_iload C dX4_end_99 rfl ?_
            refine x_iload_n C dX4_end_101 rfl ?_
            refine x_iastN C (k) rfl rfl rfl (by first | assumption | exact Nat.one_pos) hk (by decide) dX4_end_102 ?_
            refine x_aload_n C dX4_end_103 rfl ?_
            refine x_getF C hT f_X4_43 rfl rfl (by first | assumption | exact Nat.one_pos) dX4_end_104 ?_
            refine x_iload C dX4_end_107 rfl ?_
            refine x_lload_n C dX4_end_109 rfl ?_
            refine x_lastN C (k) rfl rfl rfl (by first | assumption | exact Nat.one_pos) hk (by decide) dX4_end_110 ?_
            refine x_aload_n C dX4_end_111 rfl ?_
            refine x_getF C hT f_X4_51 rfl rfl (by first | assumption | exact Nat.one_pos) dX4_end_112 ?_
            refine x_iload C dX4_end_115 rfl ?_
            refine x_iconst C 1 (by decide) dX4_end_117 ?_
            refine x_zastN C (k) rfl rfl rfl (by first | assumption | exact Nat.one_pos) hk (by decide) (by first | exact Or.inl rfl | exact Or.inr rfl | assumption) dX4_end_118 ?_
            refine x_aload_n C dX4_end_119 rfl ?_
            refine x_getF C hT f_X4_22 rfl rfl (by first | assumption | exact Nat.one_pos) dX4_end_120 ?_
            refine x_iload C dX4_end_123 rfl ?_
            refine x_aload_n C dX4_end_125 rfl ?_
            refine x_getI C f_X4_86 rfl (by first | assumption | exact Nat.one_pos) dX4_end_126 ?_
            try simp only [up3_r, Nat.reduceEqDiff, and_false, false_and, and_self, and_true, true_and, reduceIte]
            refine x_iastN C (k) rfl rfl rfl (by first | assumption | exact Nat.one_pos) hk (by decide) dX4_end_129 ?_
            refine x_aload_n C dX4_end_130 rfl ?_
            refine x_getF C hT f_X4_31 rfl rfl (by first | assumption | exact Nat.one_pos) dX4_end_131 ?_
            refine x_iload C dX4_end_134 rfl ?_
            refine x_aload_n C dX4_end_136 rfl ?_
            refine x_getF C hT f_X4_60 rfl rfl (by first | assumption | exact Nat.one_pos) dX4_end_137 ?_
            refine x_iload C dX4_end_140 rfl ?_
            refine x_ialdN C (40 * p0 + z) rfl rfl rfl (by first | assumption | exact Nat.one_pos) he (by decide) dX4_end_142 ?_
            try simp only [up3_r, Nat.reduceEqDiff, and_false, false_and, and_self, and_true, true_and, reduceIte]
            rw [hfar]
            refine x_iastN C (k) rfl rfl rfl (by first | assumption | exact Nat.one_pos) hk (by decide) dX4_end_143 ?_
            refine x_iconst C 0 (by decide) dX4_end_144 ?_
            refine x_istore C dX4_end_145 (by decide) rfl rfl ?_
            refine x_drop 7 rfl ?_
            exact x_eqL (loop a 0 (by omega)) rfl rfl rfl (by rw [eaS, meA, if_neg (fun q => q.2.2.elim (fun w => w rfl) h59)]) rfl rfl
          · skip
            exact absurd rfl h77
        · skip
          rw [lg_cmp_eq] at h59
          refine x_iconst C 1 (by decide) dX4_end_62 ?_
          refine x_goto C 67 dX4_end_63 (by decide) ?_
          refine x_istore C dX4_end_67 (by decide) rfl rfl ?_
          refine x_aload_n C dX4_end_69 rfl ?_
          refine x_getF C hT f_X4_25 rfl rfl (by first | assumption | exact Nat.one_pos) dX4_end_70 ?_
          refine x_iload C dX4_end_73 rfl ?_
          refine x_iload C dX4_end_75 rfl ?_
          refine x_if_eq C 90 dX4_end_77 (by decide) (fun h77 => ?_) (fun h77 => ?_)
          · skip
            exact absurd h77 (by decide)
          · skip
            refine x_aload_n C dX4_end_80 rfl ?_
            refine x_getF C hT f_X4_25 rfl rfl (by first | assumption | exact Nat.one_pos) dX4_end_81 ?_
            refine x_iload C dX4_end_84 rfl ?_
            refine x_ialdN C (k) rfl rfl rfl (by first | assumption | exact Nat.one_pos) hk (by decide) dX4_end_86 ?_
            try simp only [up3_r, Nat.reduceEqDiff, and_false, false_and, and_self, and_true, true_and, reduceIte]
            refine x_goto C 94 dX4_end_87 (by decide) ?_
            refine x_iastN C (k) rfl rfl rfl (by first | assumption | exact Nat.one_pos) hk (by decide) dX4_end_94 ?_
            refine x_aload_n C dX4_end_95 rfl ?_
            refine x_getF C hT f_X4_19 rfl rfl (by first | assumption | exact Nat.one_pos) dX4_end_96 ?_
            refine x_iload C dX4_end_99 rfl ?_
            refine x_iload_n C dX4_end_101 rfl ?_
            refine x_iastN C (k) rfl rfl rfl (by first | assumption | exact Nat.one_pos) hk (by decide) dX4_end_102 ?_
            refine x_aload_n C dX4_end_103 rfl ?_
            refine x_getF C hT f_X4_43 rfl rfl (by first | assumption | exact Nat.one_pos) dX4_end_104 ?_
            refine x_iload C dX4_end_107 rfl ?_
            refine x_lload_n C dX4_end_109 rfl ?_
            refine x_lastN C (k) rfl rfl rfl (by first | assumption | exact Nat.one_pos) hk (by decide) dX4_end_110 ?_
            refine x_aload_n C dX4_end_111 rfl ?_
            refine x_getF C hT f_X4_51 rfl rfl (by first | assumption | exact Nat.one_pos) dX4_end_112 ?_
            refine x_iload C dX4_end_115 rfl ?_
            refine x_iconst C 1 (by decide) dX4_end_117 ?_
            refine x_zastN C (k) rfl rfl rfl (by first | assumption | exact Nat.one_pos) hk (by decide) (by first | exact Or.inl rfl | exact Or.inr rfl | assumption) dX4_end_118 ?_
            refine x_aload_n C dX4_end_119 rfl ?_
            refine x_getF C hT f_X4_22 rfl rfl (by first | assumption | exact Nat.one_pos) dX4_end_120 ?_
            refine x_iload C dX4_end_123 rfl ?_
            refine x_aload_n C dX4_end_125 rfl ?_
            refine x_getI C f_X4_86 rfl (by first | assumption | exact Nat.one_pos) dX4_end_126 ?_
            try simp only [up3_r, Nat.reduceEqDiff, and_false, false_and, and_self, and_true, true_and, reduceIte]
            refine x_iastN C (k) rfl rfl rfl (by first | assumption | exact Nat.one_pos) hk (by decide) dX4_end_129 ?_
            refine x_aload_n C dX4_end_130 rfl ?_
            refine x_getF C hT f_X4_31 rfl rfl (by first | assumption | exact Nat.one_pos) dX4_end_131 ?_
            refine x_iload C dX4_end_134 rfl ?_
            refine x_aload_n C dX4_end_136 rfl ?_
            refine x_getF C hT f_X4_60 rfl rfl (by first | assumption | exact Nat.one_pos) dX4_end_137 ?_
            refine x_iload C dX4_end_140 rfl ?_
            refine x_ialdN C (40 * p0 + z) rfl rfl rfl (by first | assumption | exact Nat.one_pos) he (by decide) dX4_end_142 ?_
            try simp only [up3_r, Nat.reduceEqDiff, and_false, false_and, and_self, and_true, true_and, reduceIte]
            rw [hfar]
            refine x_iastN C (k) rfl rfl rfl (by first | assumption | exact Nat.one_pos) hk (by decide) dX4_end_143 ?_
            refine x_iconst C 0 (by decide) dX4_end_144 ?_
            refine x_istore C dX4_end_145 (by decide) rfl rfl ?_
            refine x_drop 7 rfl ?_
            exact x_eqL (loop a 0 (by omega)) rfl rfl rfl (by rw [eaS, meA, if_pos ⟨h31, h42, Or.inr h59⟩]) rfl rfl

set_option maxRecDepth 100000 in
set_option maxHeartbeats 4000000 in
theorem c_X4_end_f (l : Launch) (D : va_G) (dA : Nat → ClassId) (base n : Nat) (ad : Fa) (I : Fi) (J : Fj) (R : Fr) (hT : ST n R) (p0 z k a : Nat) (hp : p0 < 5) (hz : z < 40) (hs : I 37 0 p0 = nI (z + 1)) (hk : k < 40) (hon : I 38 0 (40 * p0 + z) = nI k) (hfar : I 39 0 (40 * p0 + z) = nI a) (ha8 : a ≤ 8) (x : Int32) (hx : ¬ x = 1) (v : Int64) : CT l D dA base yX4_end cX4_end 9 (some .int) 0 0 0 [.ref (ad 11 0), .int (nI p0), .int x, .long v] ad (Nn n) I J R (po (some (.int 2)) ad (Nn n) (meI I J p0 z k a x v) (up3 J 34 0 k v) R) := by
  refine CT.of 4 (L0 := [some (.ref (ad 11 0)), some (.int (nI p0)), some (.int x), some (.long v), none, none, none, none, none]) (by decide +kernel) rfl (Nat.le_of_ble_eq_true rfl) ?_
  intro p e s m args below meth c C
  have he : 40 * p0 + z < 200 := by omega
  have loop : ∀ (g t : Nat), t + g = a → GX p l e (rmX 0 0 0) s m args below meth c (MQ below (CQ D dA base (po (some (.int 2)) ad (Nn n) (meI I J p0 z k a x v) (up3 J 34 0 k v) R)) args s 0 0 (fun q => base ≤ q)) D dA base 9 ad (Nn n) (eaS (meA I J k a x v) k (40 * p0 + z) t) (up3 J 34 0 k v) R 0 0 147 [some (.ref (ad 11 0)), some (.int (nI p0)), some (.int x), some (.long v), none, some (.int (nI (40 * p0 + z))), some (.int (nI k)), none, some (.int (nI t))] [] := by
    intro g
    have hf1 : ∀ t, eaS (meA I J k a x v) k (40 * p0 + z) t 39 0 (40 * p0 + z) = nI a := fun t => by rw [eaS_o _ _ _ (by decide)]; simp [meA, up3, hfar]
    have hf4 : ∀ t q, eaS (meA I J k a x v) k (40 * p0 + z) t 40 0 q = meA I J k a x v 40 0 q := fun t q => by rw [eaS_o _ _ _ (by decide)]
    induction g with
    | zero =>
      intro t ht
      have ht2 : t = a := by omega
      subst ht2
      have h32 : eaS (meA I J k t x v) k (40 * p0 + z) t 32 0 k = I 32 0 k := by rw [eaS_o _ _ _ (by decide)]; simp [meA, up3]
      have h37 : eaS (meA I J k t x v) k (40 * p0 + z) t 37 0 p0 = nI (z + 1) := by rw [eaS_o _ _ _ (by decide)]; simp [meA, up3, hs]
      refine x_iload C dX4_end_147 rfl ?_
      refine x_aload_n C dX4_end_149 rfl ?_
      refine x_getF C hT f_X4_60 rfl rfl (by first | assumption | exact Nat.one_pos) dX4_end_150 ?_
      refine x_iload C dX4_end_153 rfl ?_
      refine x_ialdN C (40 * p0 + z) rfl rfl rfl (by first | assumption | exact Nat.one_pos) he (by decide) dX4_end_155 ?_
      refine x_icmp_ge C 191 dX4_end_156 (by decide) (fun h156 => ?_) (fun h156 => ?_)
      · skip
        refine x_aload_n C dX4_end_191 rfl ?_
        refine x_getF C hT f_X4_37 rfl rfl (by first | assumption | exact Nat.one_pos) dX4_end_192 ?_
        refine x_iload C dX4_end_195 rfl ?_
        refine x_dup2 C rfl rfl dX4_end_197 ?_
        refine x_ialdN C (k) rfl rfl rfl (by first | assumption | exact Nat.one_pos) hk (by decide) dX4_end_198 ?_
        rw [h32]
        refine x_iconst C 1 (by decide) dX4_end_199 ?_
        refine x_iadd C dX4_end_200 ?_
        refine x_iastN C (k) rfl rfl rfl (by first | assumption | exact Nat.one_pos) hk (by decide) dX4_end_201 ?_
        refine x_aload_n C dX4_end_202 rfl ?_
        refine x_getF C hT f_X4_54 rfl rfl (by first | assumption | exact Nat.one_pos) dX4_end_203 ?_
        refine x_iload_n C dX4_end_206 rfl ?_
        refine x_dup2 C rfl rfl dX4_end_207 ?_
        refine x_ialdN C (p0) rfl rfl rfl (by first | assumption | exact Nat.one_pos) hp (by decide) dX4_end_208 ?_
        rw [up3_c _ _ _ _ _ (by decide), h37]
        refine x_iconst C 1 (by decide) dX4_end_209 ?_
        refine x_isub C dX4_end_210 ?_
        rw [nI_pred]
        refine x_iastN C (p0) rfl rfl rfl (by first | assumption | exact Nat.one_pos) hp (by decide) dX4_end_211 ?_
        refine x_iconst C 2 (by decide) dX4_end_212 ?_
        exact x_iret C (po_i _ _ _ _ _ _) dX4_end_213
      · skip
        rw [hf1] at h156
        exact absurd (Int32.le_refl _) h156
    | succ g ih =>
      intro t ht
      refine x_iload C dX4_end_147 rfl ?_
      refine x_aload_n C dX4_end_149 rfl ?_
      refine x_getF C hT f_X4_60 rfl rfl (by first | assumption | exact Nat.one_pos) dX4_end_150 ?_
      refine x_iload C dX4_end_153 rfl ?_
      refine x_ialdN C (40 * p0 + z) rfl rfl rfl (by first | assumption | exact Nat.one_pos) he (by decide) dX4_end_155 ?_
      refine x_icmp_ge C 191 dX4_end_156 (by decide) (fun h156 => ?_) (fun h156 => ?_)
      · skip
        rw [hf1] at h156
        exact absurd h156 (nI_ge (show t < a by omega) (by omega))
      · skip
        refine x_aload_n C dX4_end_159 rfl ?_
        refine x_getF C hT f_X4_34 rfl rfl (by first | assumption | exact Nat.one_pos) dX4_end_160 ?_
        refine x_bipush C 8 (by decide) dX4_end_163 ?_
        refine x_iload C dX4_end_165 rfl ?_
        refine x_imul C dX4_end_167 ?_
        refine x_iload C dX4_end_168 rfl ?_
        refine x_iadd C dX4_end_170 ?_
        refine x_aload_n C dX4_end_171 rfl ?_
        refine x_getF C hT f_X4_63 rfl rfl (by first | assumption | exact Nat.one_pos) dX4_end_172 ?_
        refine x_bipush C 8 (by decide) dX4_end_175 ?_
        refine x_iload C dX4_end_177 rfl ?_
        refine x_imul C dX4_end_179 ?_
        refine x_iload C dX4_end_180 rfl ?_
        refine x_iadd C dX4_end_182 ?_
        refine x_ialdN C (8 * (40 * p0 + z) + t) (ix8 (40 * p0 + z) t) rfl rfl (by first | assumption | exact Nat.one_pos) (by omega) (by decide) dX4_end_183 ?_
        rw [hf4]
        refine x_iastN C (8 * k + t) (ix8 k t) rfl rfl (by first | assumption | exact Nat.one_pos) (by omega) (by decide) dX4_end_184 ?_
        refine x_iinc C _ dX4_end_185 rfl rfl (by decide) rfl rfl ?_
        refine x_goto C 147 dX4_end_188 (by decide) ?_
        exact x_eqL (ih (t + 1) (by omega)) rfl (by rw [← nI_1]; rfl) rfl rfl rfl rfl
  refine x_bipush C 40 (by decide) dX4_end_0 ?_
  refine x_iload_n C dX4_end_2 rfl ?_
  refine x_imul C dX4_end_3 ?_
  refine x_aload_n C dX4_end_4 rfl ?_
  refine x_getF C hT f_X4_54 rfl rfl (by first | assumption | exact Nat.one_pos) dX4_end_5 ?_
  refine x_iload_n C dX4_end_8 rfl ?_
  refine x_ialdN C (p0) rfl rfl rfl (by first | assumption | exact Nat.one_pos) hp (by decide) dX4_end_9 ?_
  try simp only [up3_r, Nat.reduceEqDiff, and_false, false_and, and_self, and_true, true_and, reduceIte]
  refine x_iadd C dX4_end_10 ?_
  refine x_iconst C 1 (by decide) dX4_end_11 ?_
  refine x_isub C dX4_end_12 ?_
  rw [hs, ix40, show 40 * p0 + (z + 1) = (40 * p0 + z) + 1 from rfl, nI_pred]
  refine x_istore C dX4_end_13 (by decide) rfl rfl ?_
  refine x_aload_n C dX4_end_15 rfl ?_
  refine x_getF C hT f_X4_57 rfl rfl (by first | assumption | exact Nat.one_pos) dX4_end_16 ?_
  refine x_iload C dX4_end_19 rfl ?_
  refine x_ialdN C (40 * p0 + z) rfl rfl rfl (by first | assumption | exact Nat.one_pos) he (by decide) dX4_end_21 ?_
  try simp only [up3_r, Nat.reduceEqDiff, and_false, false_and, and_self, and_true, true_and, reduceIte]
  rw [hon]
  refine x_istore C dX4_end_22 (by decide) rfl rfl ?_
  refine x_aload_n C dX4_end_24 rfl ?_
  refine x_getF C hT f_X4_51 rfl rfl (by first | assumption | exact Nat.one_pos) dX4_end_25 ?_
  refine x_iload C dX4_end_28 rfl ?_
  refine x_zaldN C (k) rfl rfl rfl (by first | assumption | exact Nat.one_pos) hk (by decide) dX4_end_30 ?_
  try simp only [up3_r, Nat.reduceEqDiff, and_false, false_and, and_self, and_true, true_and, reduceIte]
  refine x_if_eq C 66 dX4_end_31 (by decide) (fun h31 => ?_) (fun h31 => ?_)
  · skip
    refine x_iconst C 0 (by decide) dX4_end_66 ?_
    refine x_istore C dX4_end_67 (by decide) rfl rfl ?_
    refine x_aload_n C dX4_end_69 rfl ?_
    refine x_getF C hT f_X4_25 rfl rfl (by first | assumption | exact Nat.one_pos) dX4_end_70 ?_
    refine x_iload C dX4_end_73 rfl ?_
    refine x_iload C dX4_end_75 rfl ?_
    refine x_if_eq C 90 dX4_end_77 (by decide) (fun h77 => ?_) (fun h77 => ?_)
    · skip
      refine x_aload_n C dX4_end_90 rfl ?_
      refine x_getI C f_X4_86 rfl (by first | assumption | exact Nat.one_pos) dX4_end_91 ?_
      try simp only [up3_r, Nat.reduceEqDiff, and_false, false_and, and_self, and_true, true_and, reduceIte]
      refine x_iastN C (k) rfl rfl rfl (by first | assumption | exact Nat.one_pos) hk (by decide) dX4_end_94 ?_
      refine x_aload_n C dX4_end_95 rfl ?_
      refine x_getF C hT f_X4_19 rfl rfl (by first | assumption | exact Nat.one_pos) dX4_end_96 ?_
      refine x_iload C dX4_end_99 rfl ?_
      refine x_iload_n C dX4_end_101 rfl ?_
      refine x_iastN C (k) rfl rfl rfl (by first | assumption | exact Nat.one_pos) hk (by decide) dX4_end_102 ?_
      refine x_aload_n C dX4_end_103 rfl ?_
      refine x_getF C hT f_X4_43 rfl rfl (by first | assumption | exact Nat.one_pos) dX4_end_104 ?_
      refine x_iload C dX4_end_107 rfl ?_
      refine x_lload_n C dX4_end_109 rfl ?_
      refine x_lastN C (k) rfl rfl rfl (by first | assumption | exact Nat.one_pos) hk (by decide) dX4_end_110 ?_
      refine x_aload_n C dX4_end_111 rfl ?_
      refine x_getF C hT f_X4_51 rfl rfl (by first | assumption | exact Nat.one_pos) dX4_end_112 ?_
      refine x_iload C dX4_end_115 rfl ?_
      refine x_iconst C 1 (by decide) dX4_end_117 ?_
      refine x_zastN C (k) rfl rfl rfl (by first | assumption | exact Nat.one_pos) hk (by decide) (by first | exact Or.inl rfl | exact Or.inr rfl | assumption) dX4_end_118 ?_
      refine x_aload_n C dX4_end_119 rfl ?_
      refine x_getF C hT f_X4_22 rfl rfl (by first | assumption | exact Nat.one_pos) dX4_end_120 ?_
      refine x_iload C dX4_end_123 rfl ?_
      refine x_aload_n C dX4_end_125 rfl ?_
      refine x_getI C f_X4_86 rfl (by first | assumption | exact Nat.one_pos) dX4_end_126 ?_
      try simp only [up3_r, Nat.reduceEqDiff, and_false, false_and, and_self, and_true, true_and, reduceIte]
      refine x_iastN C (k) rfl rfl rfl (by first | assumption | exact Nat.one_pos) hk (by decide) dX4_end_129 ?_
      refine x_aload_n C dX4_end_130 rfl ?_
      refine x_getF C hT f_X4_31 rfl rfl (by first | assumption | exact Nat.one_pos) dX4_end_131 ?_
      refine x_iload C dX4_end_134 rfl ?_
      refine x_aload_n C dX4_end_136 rfl ?_
      refine x_getF C hT f_X4_60 rfl rfl (by first | assumption | exact Nat.one_pos) dX4_end_137 ?_
      refine x_iload C dX4_end_140 rfl ?_
      refine x_ialdN C (40 * p0 + z) rfl rfl rfl (by first | assumption | exact Nat.one_pos) he (by decide) dX4_end_142 ?_
      try simp only [up3_r, Nat.reduceEqDiff, and_false, false_and, and_self, and_true, true_and, reduceIte]
      rw [hfar]
      refine x_iastN C (k) rfl rfl rfl (by first | assumption | exact Nat.one_pos) hk (by decide) dX4_end_143 ?_
      refine x_iconst C 0 (by decide) dX4_end_144 ?_
      refine x_istore C dX4_end_145 (by decide) rfl rfl ?_
      refine x_drop 7 rfl ?_
      exact x_eqL (loop a 0 (by omega)) rfl rfl rfl (by rw [eaS, meA, if_neg (fun q => q.1 h31)]) rfl rfl
    · skip
      exact absurd rfl h77
  · skip
    refine x_aload_n C dX4_end_34 rfl ?_
    refine x_getF C hT f_X4_19 rfl rfl (by first | assumption | exact Nat.one_pos) dX4_end_35 ?_
    refine x_iload C dX4_end_38 rfl ?_
    refine x_ialdN C (k) rfl rfl rfl (by first | assumption | exact Nat.one_pos) hk (by decide) dX4_end_40 ?_
    try simp only [up3_r, Nat.reduceEqDiff, and_false, false_and, and_self, and_true, true_and, reduceIte]
    refine x_iload_n C dX4_end_41 rfl ?_
    refine x_icmp_ne C 66 dX4_end_42 (by decide) (fun h42 => ?_) (fun h42 => ?_)
    · skip
      refine x_iconst C 0 (by decide) dX4_end_66 ?_
      refine x_istore C dX4_end_67 (by decide) rfl rfl ?_
      refine x_aload_n C dX4_end_69 rfl ?_
      refine x_getF C hT f_X4_25 rfl rfl (by first | assumption | exact Nat.one_pos) dX4_end_70 ?_
      refine x_iload C dX4_end_73 rfl ?_
      refine x_iload C dX4_end_75 rfl ?_
      refine x_if_eq C 90 dX4_end_77 (by decide) (fun h77 => ?_) (fun h77 => ?_)
      · skip
        refine x_aload_n C dX4_end_90 rfl ?_
        refine x_getI C f_X4_86 rfl (by first | assumption | exact Nat.one_pos) dX4_end_91 ?_
        try simp only [up3_r, Nat.reduceEqDiff, and_false, false_and, and_self, and_true, true_and, reduceIte]
        refine x_iastN C (k) rfl rfl rfl (by first | assumption | exact Nat.one_pos) hk (by decide) dX4_end_94 ?_
        refine x_aload_n C dX4_end_95 rfl ?_
        refine x_getF C hT f_X4_19 rfl rfl (by first | assumption | exact Nat.one_pos) dX4_end_96 ?_
        refine x_iload C dX4_end_99 rfl ?_
        refine x_iload_n C dX4_end_101 rfl ?_
        refine x_iastN C (k) rfl rfl rfl (by first | assumption | exact Nat.one_pos) hk (by decide) dX4_end_102 ?_
        refine x_aload_n C dX4_end_103 rfl ?_
        refine x_getF C hT f_X4_43 rfl rfl (by first | assumption | exact Nat.one_pos) dX4_end_104 ?_
        refine x_iload C dX4_end_107 rfl ?_
        refine x_lload_n C dX4_end_109 rfl ?_
        refine x_lastN C (k) rfl rfl rfl (by first | assumption | exact Nat.one_pos) hk (by decide) dX4_end_110 ?_
        refine x_aload_n C dX4_end_111 rfl ?_
        refine x_getF C hT f_X4_51 rfl rfl (by first | assumption | exact Nat.one_pos) dX4_end_112 ?_
        refine x_iload C dX4_end_115 rfl ?_
        refine x_iconst C 1 (by decide) dX4_end_117 ?_
        refine x_zastN C (k) rfl rfl rfl (by first | assumption | exact Nat.one_pos) hk (by decide) (by first | exact Or.inl rfl | exact Or.inr rfl | assumption) dX4_end_118 ?_
        refine x_aload_n C dX4_end_119 rfl ?_
        refine x_getF C hT f_X4_22 rfl rfl (by first | assumption | exact Nat.one_pos) dX4_end_120 ?_
        refine x_iload C dX4_end_123 rfl ?_
        refine x_aload_n C dX4_end_125 rfl ?_
        refine x_getI C f_X4_86 rfl (by first | assumption | exact Nat.one_pos) dX4_end_126 ?_
        try simp only [up3_r, Nat.reduceEqDiff, and_false, false_and, and_self, and_true, true_and, reduceIte]
        refine x_iastN C (k) rfl rfl rfl (by first | assumption | exact Nat.one_pos) hk (by decide) dX4_end_129 ?_
        refine x_aload_n C dX4_end_130 rfl ?_
        refine x_getF C hT f_X4_31 rfl rfl (by first | assumption | exact Nat.one_pos) dX4_end_131 ?_
        refine x_iload C dX4_end_134 rfl ?_
        refine x_aload_n C dX4_end_136 rfl ?_
        refine x_getF C hT f_X4_60 rfl rfl (by first | assumption | exact Nat.one_pos) dX4_end_137 ?_
        refine x_iload C dX4_end_140 rfl ?_
        refine x_ialdN C (40 * p0 + z) rfl rfl rfl (by first | assumption | exact Nat.one_pos) he (by decide) dX4_end_142 ?_
        try simp only [up3_r, Nat.reduceEqDiff, and_false, false_and, and_self, and_true, true_and, reduceIte]
        rw [hfar]
        refine x_iastN C (k) rfl rfl rfl (by first | assumption | exact Nat.one_pos) hk (by decide) dX4_end_143 ?_
        refine x_iconst C 0 (by decide) dX4_end_144 ?_
        refine x_istore C dX4_end_145 (by decide) rfl rfl ?_
        refine x_drop 7 rfl ?_
        exact x_eqL (loop a 0 (by omega)) rfl rfl rfl (by rw [eaS, meA, if_neg (fun q => h42 q.2.1)]) rfl rfl
      · skip
        exact absurd rfl h77
    · skip
      refine x_iload_n C dX4_end_45 rfl ?_
      refine x_iconst C 1 (by decide) dX4_end_46 ?_
      refine x_icmp_ne C 62 dX4_end_47 (by decide) (fun h47 => ?_) (fun h47 => ?_)
      · skip
        refine x_iconst C 1 (by decide) dX4_end_62 ?_
        refine x_goto C 67 dX4_end_63 (by decide) ?_
        refine x_istore C dX4_end_67 (by decide) rfl rfl ?_
        refine x_aload_n C dX4_end_69 rfl ?_
        refine x_getF C hT f_X4_25 rfl rfl (by first | assumption | exact Nat.one_pos) dX4_end_70 ?_
        refine x_iload C dX4_end_73 rfl ?_
        refine x_iload C dX4_end_75 rfl ?_
        refine x_if_eq C 90 dX4_end_77 (by decide) (fun h77 => ?_) (fun h77 => ?_)
        · skip
          exact absurd h77 (by decide)
        · skip
          refine x_aload_n C dX4_end_80 rfl ?_
          refine x_getF C hT f_X4_25 rfl rfl (by first | assumption | exact Nat.one_pos) dX4_end_81 ?_
          refine x_iload C dX4_end_84 rfl ?_
          refine x_ialdN C (k) rfl rfl rfl (by first | assumption | exact Nat.one_pos) hk (by decide) dX4_end_86 ?_
          try simp only [up3_r, Nat.reduceEqDiff, and_false, false_and, and_self, and_true, true_and, reduceIte]
          refine x_goto C 94 dX4_end_87 (by decide) ?_
          refine x_iastN C (k) rfl rfl rfl (by first | assumption | exact Nat.one_pos) hk (by decide) dX4_end_94 ?_
          refine x_aload_n C dX4_end_95 rfl ?_
          refine x_getF C hT f_X4_19 rfl rfl (by first | assumption | exact Nat.one_pos) dX4_end_96 ?_
          refine x_iload C dX4_end_99 rfl ?_
          refine x_iload_n C dX4_end_101 rfl ?_
          refine x_iastN C (k) rfl rfl rfl (by first | assumption | exact Nat.one_pos) hk (by decide) dX4_end_102 ?_
          refine x_aload_n C dX4_end_103 rfl ?_
          refine x_getF C hT f_X4_43 rfl rfl (by first | assumption | exact Nat.one_pos) dX4_end_104 ?_
          refine x_iload C dX4_end_107 rfl ?_
          refine x_lload_n C dX4_end_109 rfl ?_
          refine x_lastN C (k) rfl rfl rfl (by first | assumption | exact Nat.one_pos) hk (by decide) dX4_end_110 ?_
          refine x_aload_n C dX4_end_111 rfl ?_
          refine x_getF C hT f_X4_51 rfl rfl (by first | assumption | exact Nat.one_pos) dX4_end_112 ?_
          refine x_iload C dX4_end_115 rfl ?_
          refine x_iconst C 1 (by decide) dX4_end_117 ?_
          refine x_zastN C (k) rfl rfl rfl (by first | assumption | exact Nat.one_pos) hk (by decide) (by first | exact Or.inl rfl | exact Or.inr rfl | assumption) dX4_end_118 ?_
          refine x_aload_n C dX4_end_119 rfl ?_
          refine x_getF C hT f_X4_22 rfl rfl (by first | assumption | exact Nat.one_pos) dX4_end_120 ?_
          refine x_iload C dX4_end_123 rfl ?_
          refine x_aload_n C dX4_end_125 rfl ?_
          refine x_getI C f_X4_86 rfl (by first | assumption | exact Nat.one_pos) dX4_end_126 ?_
          try simp only [up3_r, Nat.reduceEqDiff, and_false, false_and, and_self, and_true, true_and, reduceIte]
          refine x_iastN C (k) rfl rfl rfl (by first | assumption | exact Nat.one_pos) hk (by decide) dX4_end_129 ?_
          refine x_aload_n C dX4_end_130 rfl ?_
          refine x_getF C hT f_X4_31 rfl rfl (by first | assumption | exact Nat.one_pos) dX4_end_131 ?_
          refine x_iload C dX4_end_134 rfl ?_
          refine x_aload_n C dX4_end_136 rfl ?_
          refine x_getF C hT f_X4_60 rfl rfl (by first | assumption | exact Nat.one_pos) dX4_end_137 ?_
          refine x_iload C dX4_end_140 rfl ?_
          refine x_ialdN C (40 * p0 + z) rfl rfl rfl (by first | assumption | exact Nat.one_pos) he (by decide) dX4_end_142 ?_
          try simp only [up3_r, Nat.reduceEqDiff, and_false, false_and, and_self, and_true, true_and, reduceIte]
          rw [hfar]
          refine x_iastN C (k) rfl rfl rfl (by first | assumption | exact Nat.one_pos) hk (by decide) dX4_end_143 ?_
          refine x_iconst C 0 (by decide) dX4_end_144 ?_
          refine x_istore C dX4_end_145 (by decide) rfl rfl ?_
          refine x_drop 7 rfl ?_
          exact x_eqL (loop a 0 (by omega)) rfl rfl rfl (by rw [eaS, meA, if_pos ⟨h31, h42, Or.inl h47⟩]) rfl rfl
      · skip
        exact absurd h47 hx

set_option maxRecDepth 100000 in
set_option maxHeartbeats 4000000 in
theorem c_X4_await_w (l : Launch) (D : va_G) (dA : Nat → ClassId) (base n : Nat) (ad : Fa) (I : Fi) (J : Fj) (R : Fr) (hT : ST n R) (p0 j : Nat) (zs : Nat → Nat) (hH : HI I zs) (hw : ¬ pofP I (nI j) zs 5 = -1) : CT l D dA base yX4_await cX4_await 3 (some .int) 1 0 0 [.ref (ad 11 0), .int (nI p0), .int (nI j)] ad (Nn n) I J R (po (some (.int 3)) ad (Nn n) I J R) := by
  refine CT.of 0 (L0 := [some (.ref (ad 11 0)), some (.int (nI p0)), some (.int (nI j))]) (by decide +kernel) rfl (Nat.le_of_ble_eq_true rfl) ?_
  intro p e s m args below meth c C
  refine x_aload_n C dX4_await_0 rfl ?_
  refine x_iload_n C dX4_await_1 rfl ?_
  refine x_cV1 C yo_X4_pileOf m_X4_120 rfl rfl (by first | assumption | exact Nat.one_pos) (c_X4_pileOf l D dA base n ad I J R hT (nI j) zs hH) dX4_await_2 rfl rfl (Nat.le_of_ble_eq_true rfl) ⟨by decide, by decide⟩ ⟨by decide, by decide⟩ ?_
  refine x_iconst C (-1) (by decide) dX4_await_5 ?_
  refine x_icmp_eq C 11 dX4_await_6 (by decide) (fun h6 => ?_) (fun h6 => ?_)
  · skip
    exact absurd h6 hw
  · skip
    refine x_iconst C 3 (by decide) dX4_await_9 ?_
    exact x_iret C (po_i _ _ _ _ _ _) dX4_await_10

set_option maxRecDepth 100000 in
set_option maxHeartbeats 4000000 in
theorem c_X4_await_p (l : Launch) (D : va_G) (dA : Nat → ClassId) (base n : Nat) (ad : Fa) (I : Fi) (J : Fj) (R : Fr) (hT : ST n R) (p0 j : Nat) (zs : Nat → Nat) (hH : HI I zs) (hw : pofP I (nI j) zs 5 = -1) (hp : p0 < 5) (hj : j < 40) (hz : zs p0 < 40) : CT l D dA base yX4_await cX4_await 3 (some .int) 1 0 0 [.ref (ad 11 0), .int (nI p0), .int (nI j)] ad (Nn n) I J R (po (some (.int 1)) ad (Nn n) (lyI I p0 j (zs p0)) J R) := by
  refine CT.of 0 (L0 := [some (.ref (ad 11 0)), some (.int (nI p0)), some (.int (nI j))]) (by decide +kernel) rfl (Nat.le_of_ble_eq_true rfl) ?_
  intro p e s m args below meth c C
  refine x_aload_n C dX4_await_0 rfl ?_
  refine x_iload_n C dX4_await_1 rfl ?_
  refine x_cV1 C yo_X4_pileOf m_X4_120 rfl rfl (by first | assumption | exact Nat.one_pos) (c_X4_pileOf l D dA base n ad I J R hT (nI j) zs hH) dX4_await_2 rfl rfl (Nat.le_of_ble_eq_true rfl) ⟨by decide, by decide⟩ ⟨by decide, by decide⟩ ?_
  refine x_iconst C (-1) (by decide) dX4_await_5 ?_
  refine x_icmp_eq C 11 dX4_await_6 (by decide) (fun h6 => ?_) (fun h6 => ?_)
  · skip
    refine x_aload_n C dX4_await_11 rfl ?_
    refine x_iload_n C dX4_await_12 rfl ?_
    refine x_iload_n C dX4_await_13 rfl ?_
    refine x_cV0 C yo_X4_lay m_X4_126 rfl rfl (by first | assumption | exact Nat.one_pos) (c_X4_lay l D dA base n ad I J R hT p0 j (zs p0) hp hj (hH p0 hp).1 hz) dX4_await_14 rfl rfl (Nat.le_of_ble_eq_true rfl) ⟨by decide, by decide⟩ ⟨by decide, by decide⟩ ?_
    refine x_iconst C 1 (by decide) dX4_await_17 ?_
    exact x_iret C (po_i _ _ _ _ _ _) dX4_await_18
  · skip
    exact absurd hw h6

set_option maxRecDepth 100000 in
set_option maxHeartbeats 4000000 in
theorem c_X4_check_end (l : Launch) (D : va_G) (dA : Nat → ClassId) (base n : Nat) (ad : Fa) (I : Fi) (J : Fj) (R : Fr) (hT : ST n R) (p0 z k a q : Nat) (zs : Nat → Nat) (hH : HI I zs) (hzs : zs p0 = z + 1) (hp : p0 < 5) (hz : z < 40) (hk : k < 40) (hon : I 38 0 (40 * p0 + z) = nI k) (hfar : I 39 0 (40 * p0 + z) = nI a) (hq : I 30 0 k = nI q) (hq8 : q ≤ 8) (hka : a = q) : CT l D dA base yX4_check cX4_check 5 (some .int) 2 0 0 [.ref (ad 11 0), .int (nI p0), .int (nI (40 * p0 + z))] ad (Nn n) I J R (po (some (.int 2)) ad (Nn n) (up3 (up3 (up3 I 27 0 k (I 11 0 1)) 33 0 k (I 33 0 k + 1)) 37 0 p0 (nI z)) J R) := by
  refine CT.of 2 (L0 := [some (.ref (ad 11 0)), some (.int (nI p0)), some (.int (nI (40 * p0 + z))), none, none]) (by decide +kernel) rfl (Nat.le_of_ble_eq_true rfl) ?_
  intro p e s m args below meth c C
  have he : 40 * p0 + z < 200 := by omega
  have hs : I 37 0 p0 = nI (z + 1) := by rw [(hH p0 hp).1, hzs]
  refine x_aload_n C dX4_check_0 rfl ?_
  refine x_getF C hT f_X4_57 rfl rfl (by first | assumption | exact Nat.one_pos) dX4_check_1 ?_
  refine x_iload_n C dX4_check_4 rfl ?_
  refine x_ialdN C (40 * p0 + z) rfl rfl rfl (by first | assumption | exact Nat.one_pos) he (by decide) dX4_check_5 ?_
  try simp only [up3_r, Nat.reduceEqDiff, and_false, false_and, and_self, and_true, true_and, reduceIte]
  rw [hon]
  refine x_istore_n C dX4_check_6 (by decide) rfl rfl ?_
  refine x_aload_n C dX4_check_7 rfl ?_
  refine x_getF C hT f_X4_60 rfl rfl (by first | assumption | exact Nat.one_pos) dX4_check_8 ?_
  refine x_iload_n C dX4_check_11 rfl ?_
  refine x_ialdN C (40 * p0 + z) rfl rfl rfl (by first | assumption | exact Nat.one_pos) he (by decide) dX4_check_12 ?_
  try simp only [up3_r, Nat.reduceEqDiff, and_false, false_and, and_self, and_true, true_and, reduceIte]
  refine x_aload_n C dX4_check_13 rfl ?_
  refine x_getF C hT f_X4_31 rfl rfl (by first | assumption | exact Nat.one_pos) dX4_check_14 ?_
  refine x_iload_n C dX4_check_17 rfl ?_
  refine x_ialdN C (k) rfl rfl rfl (by first | assumption | exact Nat.one_pos) hk (by decide) dX4_check_18 ?_
  try simp only [up3_r, Nat.reduceEqDiff, and_false, false_and, and_self, and_true, true_and, reduceIte]
  refine x_icmp_ne C 54 dX4_check_19 (by decide) (fun h19 => ?_) (fun h19 => ?_)
  · skip
    rw [hfar, hq, hka] at h19
    exact absurd rfl h19
  · skip
    refine x_aload_n C dX4_check_22 rfl ?_
    refine x_getF C hT f_X4_22 rfl rfl (by first | assumption | exact Nat.one_pos) dX4_check_23 ?_
    refine x_iload_n C dX4_check_26 rfl ?_
    refine x_aload_n C dX4_check_27 rfl ?_
    refine x_getI C f_X4_86 rfl (by first | assumption | exact Nat.one_pos) dX4_check_28 ?_
    try simp only [up3_r, Nat.reduceEqDiff, and_false, false_and, and_self, and_true, true_and, reduceIte]
    refine x_iastN C (k) rfl rfl rfl (by first | assumption | exact Nat.one_pos) hk (by decide) dX4_check_31 ?_
    refine x_aload_n C dX4_check_32 rfl ?_
    refine x_getF C hT f_X4_40 rfl rfl (by first | assumption | exact Nat.one_pos) dX4_check_33 ?_
    refine x_iload_n C dX4_check_36 rfl ?_
    refine x_dup2 C rfl rfl dX4_check_37 ?_
    refine x_ialdN C (k) rfl rfl rfl (by first | assumption | exact Nat.one_pos) hk (by decide) dX4_check_38 ?_
    try simp only [up3_r, Nat.reduceEqDiff, and_false, false_and, and_self, and_true, true_and, reduceIte]
    refine x_iconst C 1 (by decide) dX4_check_39 ?_
    refine x_iadd C dX4_check_40 ?_
    refine x_iastN C (k) rfl rfl rfl (by first | assumption | exact Nat.one_pos) hk (by decide) dX4_check_41 ?_
    refine x_aload_n C dX4_check_42 rfl ?_
    refine x_getF C hT f_X4_54 rfl rfl (by first | assumption | exact Nat.one_pos) dX4_check_43 ?_
    refine x_iload_n C dX4_check_46 rfl ?_
    refine x_dup2 C rfl rfl dX4_check_47 ?_
    refine x_ialdN C (p0) rfl rfl rfl (by first | assumption | exact Nat.one_pos) hp (by decide) dX4_check_48 ?_
    try simp only [up3_r, Nat.reduceEqDiff, and_false, false_and, and_self, and_true, true_and, reduceIte]
    refine x_iconst C 1 (by decide) dX4_check_49 ?_
    refine x_isub C dX4_check_50 ?_
    rw [hs, nI_pred]
    refine x_iastN C (p0) rfl rfl rfl (by first | assumption | exact Nat.one_pos) hp (by decide) dX4_check_51 ?_
    refine x_iconst C 2 (by decide) dX4_check_52 ?_
    exact x_iret C (po_i _ _ _ _ _ _) dX4_check_53

set_option maxRecDepth 100000 in
set_option maxHeartbeats 4000000 in
theorem c_X4_check_wait (l : Launch) (D : va_G) (dA : Nat → ClassId) (base n : Nat) (ad : Fa) (I : Fi) (J : Fj) (R : Fr) (hT : ST n R) (p0 z k a q : Nat) (zs : Nat → Nat) (hH : HI I zs) (hzs : zs p0 = z + 1) (hp : p0 < 5) (hz : z < 40) (hk : k < 40) (hon : I 38 0 (40 * p0 + z) = nI k) (hfar : I 39 0 (40 * p0 + z) = nI a) (hq : I 30 0 k = nI q) (hq8 : q ≤ 8) (pl j : Nat) (hka : a < q) (hpl : I 31 0 (8 * k + a) = nI pl) (hpl8 : pl < 8) (hj : I 25 0 (8 * k + pl) = nI j) (hj40 : j < 40) (hsu : msure I j = false) (hw : ¬ pofP I (nI j) zs 5 = -1) : CT l D dA base yX4_check cX4_check 5 (some .int) 2 0 0 [.ref (ad 11 0), .int (nI p0), .int (nI (40 * p0 + z))] ad (Nn n) I J R (po (some (.int 3)) ad (Nn n) I J R) := by
  refine CT.of 2 (L0 := [some (.ref (ad 11 0)), some (.int (nI p0)), some (.int (nI (40 * p0 + z))), none, none]) (by decide +kernel) rfl (Nat.le_of_ble_eq_true rfl) ?_
  intro p e s m args below meth c C
  have he : 40 * p0 + z < 200 := by omega
  have hs : I 37 0 p0 = nI (z + 1) := by rw [(hH p0 hp).1, hzs]
  refine x_aload_n C dX4_check_0 rfl ?_
  refine x_getF C hT f_X4_57 rfl rfl (by first | assumption | exact Nat.one_pos) dX4_check_1 ?_
  refine x_iload_n C dX4_check_4 rfl ?_
  refine x_ialdN C (40 * p0 + z) rfl rfl rfl (by first | assumption | exact Nat.one_pos) he (by decide) dX4_check_5 ?_
  rw [hon]
  refine x_istore_n C dX4_check_6 (by decide) rfl rfl ?_
  refine x_aload_n C dX4_check_7 rfl ?_
  refine x_getF C hT f_X4_60 rfl rfl (by first | assumption | exact Nat.one_pos) dX4_check_8 ?_
  refine x_iload_n C dX4_check_11 rfl ?_
  refine x_ialdN C (40 * p0 + z) rfl rfl rfl (by first | assumption | exact Nat.one_pos) he (by decide) dX4_check_12 ?_
  refine x_aload_n C dX4_check_13 rfl ?_
  refine x_getF C hT f_X4_31 rfl rfl (by first | assumption | exact Nat.one_pos) dX4_check_14 ?_
  refine x_iload_n C dX4_check_17 rfl ?_
  refine x_ialdN C (k) rfl rfl rfl (by first | assumption | exact Nat.one_pos) hk (by decide) dX4_check_18 ?_
  refine x_icmp_ne C 54 dX4_check_19 (by decide) (fun h19 => ?_) (fun h19 => ?_)
  · skip
    refine x_aload_n C dX4_check_54 rfl ?_
    refine x_iload_n C dX4_check_55 rfl ?_
    refine x_aload_n C dX4_check_56 rfl ?_
    refine x_getF C hT f_X4_34 rfl rfl (by first | assumption | exact Nat.one_pos) dX4_check_57 ?_
    refine x_bipush C 8 (by decide) dX4_check_60 ?_
    refine x_iload_n C dX4_check_62 rfl ?_
    refine x_imul C dX4_check_63 ?_
    refine x_aload_n C dX4_check_64 rfl ?_
    refine x_getF C hT f_X4_60 rfl rfl (by first | assumption | exact Nat.one_pos) dX4_check_65 ?_
    refine x_iload_n C dX4_check_68 rfl ?_
    refine x_ialdN C (40 * p0 + z) rfl rfl rfl (by first | assumption | exact Nat.one_pos) he (by decide) dX4_check_69 ?_
    rw [hfar]
    refine x_iadd C dX4_check_70 ?_
    refine x_ialdN C (8 * k + a) (ix8 k a) rfl rfl (by first | assumption | exact Nat.one_pos) (by omega) (by decide) dX4_check_71 ?_
    rw [hpl]
    refine x_cV1 C yo_X4_rowKey m_X4_97 rfl rfl (by first | assumption | exact Nat.one_pos) (c_X4_rowKey l D dA base n ad I J R hT k pl hk hpl8) dX4_check_72 rfl rfl (Nat.le_of_ble_eq_true rfl) ⟨by decide, by decide⟩ ⟨by decide, by decide⟩ ?_
    rw [hj]
    refine x_istore C dX4_check_75 (by decide) rfl rfl ?_
    refine x_aload_n C dX4_check_77 rfl ?_
    refine x_iload C dX4_check_78 rfl ?_
    refine x_cV1 C yo_X4_isSure m_X4_123 rfl rfl (by first | assumption | exact Nat.one_pos) (c_X4_isSure l D dA base n ad I J R hT j hj40) dX4_check_80 rfl rfl (Nat.le_of_ble_eq_true rfl) ⟨by decide, by decide⟩ ⟨by decide, by decide⟩ ?_
    refine x_if_ne C 94 dX4_check_83 (by decide) (fun h83 => ?_) (fun h83 => ?_)
    · skip
      rw [hsu] at h83
      exact absurd rfl h83
    · skip
      refine x_aload_n C dX4_check_86 rfl ?_
      refine x_iload_n C dX4_check_87 rfl ?_
      refine x_iload C dX4_check_88 rfl ?_
      refine x_cV1 C yo_X4_await m_X4_140 rfl rfl (by first | assumption | exact Nat.one_pos) (c_X4_await_w l D dA base n ad I J R hT p0 j zs hH hw) dX4_check_90 rfl rfl (Nat.le_of_ble_eq_true rfl) ⟨by decide, by decide⟩ ⟨by decide, by decide⟩ ?_
      exact x_iret C (po_i _ _ _ _ _ _) dX4_check_93
  · skip
    rw [hfar, hq] at h19
    exact absurd ((nI_eq (by omega) (by omega)).mp h19) (by omega)

set_option maxRecDepth 100000 in
set_option maxHeartbeats 4000000 in
theorem c_X4_check_put (l : Launch) (D : va_G) (dA : Nat → ClassId) (base n : Nat) (ad : Fa) (I : Fi) (J : Fj) (R : Fr) (hT : ST n R) (p0 z k a q : Nat) (zs : Nat → Nat) (hH : HI I zs) (hzs : zs p0 = z + 1) (hp : p0 < 5) (hz : z < 40) (hk : k < 40) (hon : I 38 0 (40 * p0 + z) = nI k) (hfar : I 39 0 (40 * p0 + z) = nI a) (hq : I 30 0 k = nI q) (hq8 : q ≤ 8) (pl j : Nat) (hka : a < q) (hpl : I 31 0 (8 * k + a) = nI pl) (hpl8 : pl < 8) (hj : I 25 0 (8 * k + pl) = nI j) (hj40 : j < 40) (hsu : msure I j = false) (hw : pofP I (nI j) zs 5 = -1) (hz2 : zs p0 < 40) : CT l D dA base yX4_check cX4_check 5 (some .int) 2 0 0 [.ref (ad 11 0), .int (nI p0), .int (nI (40 * p0 + z))] ad (Nn n) I J R (po (some (.int 1)) ad (Nn n) (lyI I p0 j (zs p0)) J R) := by
  refine CT.of 2 (L0 := [some (.ref (ad 11 0)), some (.int (nI p0)), some (.int (nI (40 * p0 + z))), none, none]) (by decide +kernel) rfl (Nat.le_of_ble_eq_true rfl) ?_
  intro p e s m args below meth c C
  have he : 40 * p0 + z < 200 := by omega
  have hs : I 37 0 p0 = nI (z + 1) := by rw [(hH p0 hp).1, hzs]
  refine x_aload_n C dX4_check_0 rfl ?_
  refine x_getF C hT f_X4_57 rfl rfl (by first | assumption | exact Nat.one_pos) dX4_check_1 ?_
  refine x_iload_n C dX4_check_4 rfl ?_
  refine x_ialdN C (40 * p0 + z) rfl rfl rfl (by first | assumption | exact Nat.one_pos) he (by decide) dX4_check_5 ?_
  rw [hon]
  refine x_istore_n C dX4_check_6 (by decide) rfl rfl ?_
  refine x_aload_n C dX4_check_7 rfl ?_
  refine x_getF C hT f_X4_60 rfl rfl (by first | assumption | exact Nat.one_pos) dX4_check_8 ?_
  refine x_iload_n C dX4_check_11 rfl ?_
  refine x_ialdN C (40 * p0 + z) rfl rfl rfl (by first | assumption | exact Nat.one_pos) he (by decide) dX4_check_12 ?_
  refine x_aload_n C dX4_check_13 rfl ?_
  refine x_getF C hT f_X4_31 rfl rfl (by first | assumption | exact Nat.one_pos) dX4_check_14 ?_
  refine x_iload_n C dX4_check_17 rfl ?_
  refine x_ialdN C (k) rfl rfl rfl (by first | assumption | exact Nat.one_pos) hk (by decide) dX4_check_18 ?_
  refine x_icmp_ne C 54 dX4_check_19 (by decide) (fun h19 => ?_) (fun h19 => ?_)
  · skip
    refine x_aload_n C dX4_check_54 rfl ?_
    refine x_iload_n C dX4_check_55 rfl ?_
    refine x_aload_n C dX4_check_56 rfl ?_
    refine x_getF C hT f_X4_34 rfl rfl (by first | assumption | exact Nat.one_pos) dX4_check_57 ?_
    refine x_bipush C 8 (by decide) dX4_check_60 ?_
    refine x_iload_n C dX4_check_62 rfl ?_
    refine x_imul C dX4_check_63 ?_
    refine x_aload_n C dX4_check_64 rfl ?_
    refine x_getF C hT f_X4_60 rfl rfl (by first | assumption | exact Nat.one_pos) dX4_check_65 ?_
    refine x_iload_n C dX4_check_68 rfl ?_
    refine x_ialdN C (40 * p0 + z) rfl rfl rfl (by first | assumption | exact Nat.one_pos) he (by decide) dX4_check_69 ?_
    rw [hfar]
    refine x_iadd C dX4_check_70 ?_
    refine x_ialdN C (8 * k + a) (ix8 k a) rfl rfl (by first | assumption | exact Nat.one_pos) (by omega) (by decide) dX4_check_71 ?_
    rw [hpl]
    refine x_cV1 C yo_X4_rowKey m_X4_97 rfl rfl (by first | assumption | exact Nat.one_pos) (c_X4_rowKey l D dA base n ad I J R hT k pl hk hpl8) dX4_check_72 rfl rfl (Nat.le_of_ble_eq_true rfl) ⟨by decide, by decide⟩ ⟨by decide, by decide⟩ ?_
    rw [hj]
    refine x_istore C dX4_check_75 (by decide) rfl rfl ?_
    refine x_aload_n C dX4_check_77 rfl ?_
    refine x_iload C dX4_check_78 rfl ?_
    refine x_cV1 C yo_X4_isSure m_X4_123 rfl rfl (by first | assumption | exact Nat.one_pos) (c_X4_isSure l D dA base n ad I J R hT j hj40) dX4_check_80 rfl rfl (Nat.le_of_ble_eq_true rfl) ⟨by decide, by decide⟩ ⟨by decide, by decide⟩ ?_
    refine x_if_ne C 94 dX4_check_83 (by decide) (fun h83 => ?_) (fun h83 => ?_)
    · skip
      rw [hsu] at h83
      exact absurd rfl h83
    · skip
      refine x_aload_n C dX4_check_86 rfl ?_
      refine x_iload_n C dX4_check_87 rfl ?_
      refine x_iload C dX4_check_88 rfl ?_
      refine x_cV1 C yo_X4_await m_X4_140 rfl rfl (by first | assumption | exact Nat.one_pos) (c_X4_await_p l D dA base n ad I J R hT p0 j zs hH hw hp hj40 hz2) dX4_check_90 rfl rfl (Nat.le_of_ble_eq_true rfl) ⟨by decide, by decide⟩ ⟨by decide, by decide⟩ ?_
      exact x_iret C (po_i _ _ _ _ _ _) dX4_check_93
  · skip
    rw [hfar, hq] at h19
    exact absurd ((nI_eq (by omega) (by omega)).mp h19) (by omega)

set_option maxRecDepth 100000 in
set_option maxHeartbeats 4000000 in
theorem c_X4_check_chg (l : Launch) (D : va_G) (dA : Nat → ClassId) (base n : Nat) (ad : Fa) (I : Fi) (J : Fj) (R : Fr) (hT : ST n R) (p0 z k a q : Nat) (zs : Nat → Nat) (hH : HI I zs) (hzs : zs p0 = z + 1) (hp : p0 < 5) (hz : z < 40) (hk : k < 40) (hon : I 38 0 (40 * p0 + z) = nI k) (hfar : I 39 0 (40 * p0 + z) = nI a) (hq : I 30 0 k = nI q) (hq8 : q ≤ 8) (pl j : Nat) (hka : a < q) (hpl : I 31 0 (8 * k + a) = nI pl) (hpl8 : pl < 8) (hj : I 25 0 (8 * k + pl) = nI j) (hj40 : j < 40) (hsu : msure I j = true) (hc : I 27 0 k < I 28 0 j) : CT l D dA base yX4_check cX4_check 5 (some .int) 2 0 0 [.ref (ad 11 0), .int (nI p0), .int (nI (40 * p0 + z))] ad (Nn n) I J R (po (some (.int 5)) ad (Nn n) (up3 (up3 I 41 0 (40 * p0 + z) 1) 39 0 (40 * p0 + z) 0) J R) := by
  refine CT.of 2 (L0 := [some (.ref (ad 11 0)), some (.int (nI p0)), some (.int (nI (40 * p0 + z))), none, none]) (by decide +kernel) rfl (Nat.le_of_ble_eq_true rfl) ?_
  intro p e s m args below meth c C
  have he : 40 * p0 + z < 200 := by omega
  have hs : I 37 0 p0 = nI (z + 1) := by rw [(hH p0 hp).1, hzs]
  refine x_aload_n C dX4_check_0 rfl ?_
  refine x_getF C hT f_X4_57 rfl rfl (by first | assumption | exact Nat.one_pos) dX4_check_1 ?_
  refine x_iload_n C dX4_check_4 rfl ?_
  refine x_ialdN C (40 * p0 + z) rfl rfl rfl (by first | assumption | exact Nat.one_pos) he (by decide) dX4_check_5 ?_
  rw [hon]
  refine x_istore_n C dX4_check_6 (by decide) rfl rfl ?_
  refine x_aload_n C dX4_check_7 rfl ?_
  refine x_getF C hT f_X4_60 rfl rfl (by first | assumption | exact Nat.one_pos) dX4_check_8 ?_
  refine x_iload_n C dX4_check_11 rfl ?_
  refine x_ialdN C (40 * p0 + z) rfl rfl rfl (by first | assumption | exact Nat.one_pos) he (by decide) dX4_check_12 ?_
  refine x_aload_n C dX4_check_13 rfl ?_
  refine x_getF C hT f_X4_31 rfl rfl (by first | assumption | exact Nat.one_pos) dX4_check_14 ?_
  refine x_iload_n C dX4_check_17 rfl ?_
  refine x_ialdN C (k) rfl rfl rfl (by first | assumption | exact Nat.one_pos) hk (by decide) dX4_check_18 ?_
  refine x_icmp_ne C 54 dX4_check_19 (by decide) (fun h19 => ?_) (fun h19 => ?_)
  · skip
    refine x_aload_n C dX4_check_54 rfl ?_
    refine x_iload_n C dX4_check_55 rfl ?_
    refine x_aload_n C dX4_check_56 rfl ?_
    refine x_getF C hT f_X4_34 rfl rfl (by first | assumption | exact Nat.one_pos) dX4_check_57 ?_
    refine x_bipush C 8 (by decide) dX4_check_60 ?_
    refine x_iload_n C dX4_check_62 rfl ?_
    refine x_imul C dX4_check_63 ?_
    refine x_aload_n C dX4_check_64 rfl ?_
    refine x_getF C hT f_X4_60 rfl rfl (by first | assumption | exact Nat.one_pos) dX4_check_65 ?_
    refine x_iload_n C dX4_check_68 rfl ?_
    refine x_ialdN C (40 * p0 + z) rfl rfl rfl (by first | assumption | exact Nat.one_pos) he (by decide) dX4_check_69 ?_
    rw [hfar]
    refine x_iadd C dX4_check_70 ?_
    refine x_ialdN C (8 * k + a) (ix8 k a) rfl rfl (by first | assumption | exact Nat.one_pos) (by omega) (by decide) dX4_check_71 ?_
    rw [hpl]
    refine x_cV1 C yo_X4_rowKey m_X4_97 rfl rfl (by first | assumption | exact Nat.one_pos) (c_X4_rowKey l D dA base n ad I J R hT k pl hk hpl8) dX4_check_72 rfl rfl (Nat.le_of_ble_eq_true rfl) ⟨by decide, by decide⟩ ⟨by decide, by decide⟩ ?_
    rw [hj]
    refine x_istore C dX4_check_75 (by decide) rfl rfl ?_
    refine x_aload_n C dX4_check_77 rfl ?_
    refine x_iload C dX4_check_78 rfl ?_
    refine x_cV1 C yo_X4_isSure m_X4_123 rfl rfl (by first | assumption | exact Nat.one_pos) (c_X4_isSure l D dA base n ad I J R hT j hj40) dX4_check_80 rfl rfl (Nat.le_of_ble_eq_true rfl) ⟨by decide, by decide⟩ ⟨by decide, by decide⟩ ?_
    refine x_if_ne C 94 dX4_check_83 (by decide) (fun h83 => ?_) (fun h83 => ?_)
    · skip
      refine x_aload_n C dX4_check_94 rfl ?_
      refine x_getF C hT f_X4_25 rfl rfl (by first | assumption | exact Nat.one_pos) dX4_check_95 ?_
      refine x_iload C dX4_check_98 rfl ?_
      refine x_ialdN C (j) rfl rfl rfl (by first | assumption | exact Nat.one_pos) hj40 (by decide) dX4_check_100 ?_
      refine x_aload_n C dX4_check_101 rfl ?_
      refine x_getF C hT f_X4_22 rfl rfl (by first | assumption | exact Nat.one_pos) dX4_check_102 ?_
      refine x_iload_n C dX4_check_105 rfl ?_
      refine x_ialdN C (k) rfl rfl rfl (by first | assumption | exact Nat.one_pos) hk (by decide) dX4_check_106 ?_
      refine x_icmp_le C 126 dX4_check_107 (by decide) (fun h107 => ?_) (fun h107 => ?_)
      · skip
        exact absurd hc (Int32.not_lt.mpr h107)
      · skip
        refine x_aload_n C dX4_check_110 rfl ?_
        refine x_getF C hT f_X4_66 rfl rfl (by first | assumption | exact Nat.one_pos) dX4_check_111 ?_
        refine x_iload_n C dX4_check_114 rfl ?_
        refine x_iconst C 1 (by decide) dX4_check_115 ?_
        refine x_zastN C (40 * p0 + z) rfl rfl rfl (by first | assumption | exact Nat.one_pos) he (by decide) (by first | exact Or.inl rfl | exact Or.inr rfl | assumption) dX4_check_116 ?_
        refine x_aload_n C dX4_check_117 rfl ?_
        refine x_getF C hT f_X4_60 rfl rfl (by first | assumption | exact Nat.one_pos) dX4_check_118 ?_
        refine x_iload_n C dX4_check_121 rfl ?_
        refine x_iconst C 0 (by decide) dX4_check_122 ?_
        refine x_iastN C (40 * p0 + z) rfl rfl rfl (by first | assumption | exact Nat.one_pos) he (by decide) dX4_check_123 ?_
        refine x_iconst C 5 (by decide) dX4_check_124 ?_
        exact x_iret C (po_i _ _ _ _ _ _) dX4_check_125
    · skip
      rw [hsu] at h83
      exact absurd h83 (by decide)
  · skip
    rw [hfar, hq] at h19
    exact absurd ((nI_eq (by omega) (by omega)).mp h19) (by omega)

set_option maxRecDepth 100000 in
set_option maxHeartbeats 4000000 in
theorem c_X4_check_pass (l : Launch) (D : va_G) (dA : Nat → ClassId) (base n : Nat) (ad : Fa) (I : Fi) (J : Fj) (R : Fr) (hT : ST n R) (p0 z k a q : Nat) (zs : Nat → Nat) (hH : HI I zs) (hzs : zs p0 = z + 1) (hp : p0 < 5) (hz : z < 40) (hk : k < 40) (hon : I 38 0 (40 * p0 + z) = nI k) (hfar : I 39 0 (40 * p0 + z) = nI a) (hq : I 30 0 k = nI q) (hq8 : q ≤ 8) (pl j : Nat) (hka : a < q) (hpl : I 31 0 (8 * k + a) = nI pl) (hpl8 : pl < 8) (hj : I 25 0 (8 * k + pl) = nI j) (hj40 : j < 40) (hsu : msure I j = true) (hc : ¬ I 27 0 k < I 28 0 j) : CT l D dA base yX4_check cX4_check 5 (some .int) 2 0 0 [.ref (ad 11 0), .int (nI p0), .int (nI (40 * p0 + z))] ad (Nn n) I J R (po (some (.int 4)) ad (Nn n) (up3 I 39 0 (40 * p0 + z) (nI (a + 1))) J R) := by
  refine CT.of 2 (L0 := [some (.ref (ad 11 0)), some (.int (nI p0)), some (.int (nI (40 * p0 + z))), none, none]) (by decide +kernel) rfl (Nat.le_of_ble_eq_true rfl) ?_
  intro p e s m args below meth c C
  have he : 40 * p0 + z < 200 := by omega
  have hs : I 37 0 p0 = nI (z + 1) := by rw [(hH p0 hp).1, hzs]
  refine x_aload_n C dX4_check_0 rfl ?_
  refine x_getF C hT f_X4_57 rfl rfl (by first | assumption | exact Nat.one_pos) dX4_check_1 ?_
  refine x_iload_n C dX4_check_4 rfl ?_
  refine x_ialdN C (40 * p0 + z) rfl rfl rfl (by first | assumption | exact Nat.one_pos) he (by decide) dX4_check_5 ?_
  rw [hon]
  refine x_istore_n C dX4_check_6 (by decide) rfl rfl ?_
  refine x_aload_n C dX4_check_7 rfl ?_
  refine x_getF C hT f_X4_60 rfl rfl (by first | assumption | exact Nat.one_pos) dX4_check_8 ?_
  refine x_iload_n C dX4_check_11 rfl ?_
  refine x_ialdN C (40 * p0 + z) rfl rfl rfl (by first | assumption | exact Nat.one_pos) he (by decide) dX4_check_12 ?_
  refine x_aload_n C dX4_check_13 rfl ?_
  refine x_getF C hT f_X4_31 rfl rfl (by first | assumption | exact Nat.one_pos) dX4_check_14 ?_
  refine x_iload_n C dX4_check_17 rfl ?_
  refine x_ialdN C (k) rfl rfl rfl (by first | assumption | exact Nat.one_pos) hk (by decide) dX4_check_18 ?_
  refine x_icmp_ne C 54 dX4_check_19 (by decide) (fun h19 => ?_) (fun h19 => ?_)
  · skip
    refine x_aload_n C dX4_check_54 rfl ?_
    refine x_iload_n C dX4_check_55 rfl ?_
    refine x_aload_n C dX4_check_56 rfl ?_
    refine x_getF C hT f_X4_34 rfl rfl (by first | assumption | exact Nat.one_pos) dX4_check_57 ?_
    refine x_bipush C 8 (by decide) dX4_check_60 ?_
    refine x_iload_n C dX4_check_62 rfl ?_
    refine x_imul C dX4_check_63 ?_
    refine x_aload_n C dX4_check_64 rfl ?_
    refine x_getF C hT f_X4_60 rfl rfl (by first | assumption | exact Nat.one_pos) dX4_check_65 ?_
    refine x_iload_n C dX4_check_68 rfl ?_
    refine x_ialdN C (40 * p0 + z) rfl rfl rfl (by first | assumption | exact Nat.one_pos) he (by decide) dX4_check_69 ?_
    rw [hfar]
    refine x_iadd C dX4_check_70 ?_
    refine x_ialdN C (8 * k + a) (ix8 k a) rfl rfl (by first | assumption | exact Nat.one_pos) (by omega) (by decide) dX4_check_71 ?_
    rw [hpl]
    refine x_cV1 C yo_X4_rowKey m_X4_97 rfl rfl (by first | assumption | exact Nat.one_pos) (c_X4_rowKey l D dA base n ad I J R hT k pl hk hpl8) dX4_check_72 rfl rfl (Nat.le_of_ble_eq_true rfl) ⟨by decide, by decide⟩ ⟨by decide, by decide⟩ ?_
    rw [hj]
    refine x_istore C dX4_check_75 (by decide) rfl rfl ?_
    refine x_aload_n C dX4_check_77 rfl ?_
    refine x_iload C dX4_check_78 rfl ?_
    refine x_cV1 C yo_X4_isSure m_X4_123 rfl rfl (by first | assumption | exact Nat.one_pos) (c_X4_isSure l D dA base n ad I J R hT j hj40) dX4_check_80 rfl rfl (Nat.le_of_ble_eq_true rfl) ⟨by decide, by decide⟩ ⟨by decide, by decide⟩ ?_
    refine x_if_ne C 94 dX4_check_83 (by decide) (fun h83 => ?_) (fun h83 => ?_)
    · skip
      refine x_aload_n C dX4_check_94 rfl ?_
      refine x_getF C hT f_X4_25 rfl rfl (by first | assumption | exact Nat.one_pos) dX4_check_95 ?_
      refine x_iload C dX4_check_98 rfl ?_
      refine x_ialdN C (j) rfl rfl rfl (by first | assumption | exact Nat.one_pos) hj40 (by decide) dX4_check_100 ?_
      refine x_aload_n C dX4_check_101 rfl ?_
      refine x_getF C hT f_X4_22 rfl rfl (by first | assumption | exact Nat.one_pos) dX4_check_102 ?_
      refine x_iload_n C dX4_check_105 rfl ?_
      refine x_ialdN C (k) rfl rfl rfl (by first | assumption | exact Nat.one_pos) hk (by decide) dX4_check_106 ?_
      refine x_icmp_le C 126 dX4_check_107 (by decide) (fun h107 => ?_) (fun h107 => ?_)
      · skip
        refine x_aload_n C dX4_check_126 rfl ?_
        refine x_getF C hT f_X4_60 rfl rfl (by first | assumption | exact Nat.one_pos) dX4_check_127 ?_
        refine x_iload_n C dX4_check_130 rfl ?_
        refine x_dup2 C rfl rfl dX4_check_131 ?_
        refine x_ialdN C (40 * p0 + z) rfl rfl rfl (by first | assumption | exact Nat.one_pos) he (by decide) dX4_check_132 ?_
        refine x_iconst C 1 (by decide) dX4_check_133 ?_
        refine x_iadd C dX4_check_134 ?_
        refine x_iastN C (40 * p0 + z) rfl rfl rfl (by first | assumption | exact Nat.one_pos) he (by decide) dX4_check_135 ?_
        refine x_iconst C 4 (by decide) dX4_check_136 ?_
        exact x_iret C (⟨rfl, rfl, rfl, by rw [hfar, nI_1], rfl, rfl⟩) dX4_check_137
      · skip
        exact absurd (Int32.not_lt.mp hc) h107
    · skip
      rw [hsu] at h83
      exact absurd h83 (by decide)
  · skip
    rw [hfar, hq] at h19
    exact absurd ((nI_eq (by omega) (by omega)).mp h19) (by omega)

set_option maxRecDepth 100000 in
set_option maxHeartbeats 4000000 in
theorem c_X4_go_0 (l : Launch) (D : va_G) (dA : Nat → ClassId) (base n : Nat) (ad : Fa) (I : Fi) (J : Fj) (R : Fr) (hT : ST n R) (p0 : Nat) (hp : p0 < 5) (hs : I 37 0 p0 = nI 0) : CT l D dA base yX4_go cX4_go 5 (some .int) 3 0 0 [.ref (ad 11 0), .int (nI p0)] ad (Nn n) I J R (po (some (.int 0)) ad (Nn n) I J R) := by
  refine CT.of 3 (L0 := [some (.ref (ad 11 0)), some (.int (nI p0)), none, none, none]) (by decide +kernel) rfl (Nat.le_of_ble_eq_true rfl) ?_
  intro p e s m args below meth c C
  refine x_aload_n C dX4_go_0 rfl ?_
  refine x_getF C hT f_X4_54 rfl rfl (by first | assumption | exact Nat.one_pos) dX4_go_1 ?_
  refine x_iload_n C dX4_go_4 rfl ?_
  refine x_ialdN C (p0) rfl rfl rfl (by first | assumption | exact Nat.one_pos) hp (by decide) dX4_go_5 ?_
  refine x_if_ne C 11 dX4_go_6 (by decide) (fun h6 => ?_) (fun h6 => ?_)
  · skip
    rw [hs] at h6
    exact absurd rfl h6
  · skip
    refine x_iconst C 0 (by decide) dX4_go_9 ?_
    exact x_iret C (po_i _ _ _ _ _ _) dX4_go_10

set_option maxRecDepth 100000 in
set_option maxHeartbeats 4000000 in
theorem c_X4_go_c (l : Launch) (D : va_G) (dA : Nat → ClassId) (base n : Nat) (ad : Fa) (I : Fi) (J : Fj) (R : Fr) (hT : ST n R) (p0 z : Nat) (zs : Nat → Nat) (hH : HI I zs) (hzs : zs p0 = z + 1) (hp : p0 < 5) (hz : z < 40) (hc : I 41 0 (40 * p0 + z) = 0) (x : Int32) (I1 : Fi) (J1 : Fj) (R1 : Fr) (hM : CT l D dA base yX4_check cX4_check 5 (some .int) 2 0 0 [.ref (ad 11 0), .int (nI p0), .int (nI (40 * p0 + z))] ad (Nn n) I J R (po (some (.int x)) ad (Nn n) I1 J1 R1)) : CT l D dA base yX4_go cX4_go 5 (some .int) 3 0 0 [.ref (ad 11 0), .int (nI p0)] ad (Nn n) I J R (po (some (.int x)) ad (Nn n) I1 J1 R1) := by
  refine CT.of 3 (L0 := [some (.ref (ad 11 0)), some (.int (nI p0)), none, none, none]) (by decide +kernel) rfl (Nat.le_of_ble_eq_true rfl) ?_
  intro p e s m args below meth c C
  have he : 40 * p0 + z < 200 := by omega
  have hs : I 37 0 p0 = nI (z + 1) := by rw [(hH p0 hp).1, hzs]
  refine x_aload_n C dX4_go_0 rfl ?_
  refine x_getF C hT f_X4_54 rfl rfl (by first | assumption | exact Nat.one_pos) dX4_go_1 ?_
  refine x_iload_n C dX4_go_4 rfl ?_
  refine x_ialdN C (p0) rfl rfl rfl (by first | assumption | exact Nat.one_pos) hp (by decide) dX4_go_5 ?_
  refine x_if_ne C 11 dX4_go_6 (by decide) (fun h6 => ?_) (fun h6 => ?_)
  · skip
    refine x_bipush C 40 (by decide) dX4_go_11 ?_
    refine x_iload_n C dX4_go_13 rfl ?_
    refine x_imul C dX4_go_14 ?_
    refine x_aload_n C dX4_go_15 rfl ?_
    refine x_getF C hT f_X4_54 rfl rfl (by first | assumption | exact Nat.one_pos) dX4_go_16 ?_
    refine x_iload_n C dX4_go_19 rfl ?_
    refine x_ialdN C (p0) rfl rfl rfl (by first | assumption | exact Nat.one_pos) hp (by decide) dX4_go_20 ?_
    refine x_iadd C dX4_go_21 ?_
    refine x_iconst C 1 (by decide) dX4_go_22 ?_
    refine x_isub C dX4_go_23 ?_
    rw [hs, ix40, show 40 * p0 + (z + 1) = (40 * p0 + z) + 1 from rfl, nI_pred]
    refine x_istore_n C dX4_go_24 (by decide) rfl rfl ?_
    refine x_aload_n C dX4_go_25 rfl ?_
    refine x_getF C hT f_X4_66 rfl rfl (by first | assumption | exact Nat.one_pos) dX4_go_26 ?_
    refine x_iload_n C dX4_go_29 rfl ?_
    refine x_zaldN C (40 * p0 + z) rfl rfl rfl (by first | assumption | exact Nat.one_pos) he (by decide) dX4_go_30 ?_
    refine x_if_ne C 41 dX4_go_31 (by decide) (fun h31 => ?_) (fun h31 => ?_)
    · skip
      exact absurd hc h31
    · skip
      refine x_aload_n C dX4_go_34 rfl ?_
      refine x_iload_n C dX4_go_35 rfl ?_
      refine x_iload_n C dX4_go_36 rfl ?_
      refine x_cV1 C yo_X4_check m_X4_143 rfl rfl (by first | assumption | exact Nat.one_pos) (hM) dX4_go_37 rfl rfl (Nat.le_of_ble_eq_true rfl) ⟨by decide, by decide⟩ ⟨by decide, by decide⟩ ?_
      exact x_iret C (po_i _ _ _ _ _ _) dX4_go_40
  · skip
    rw [hs] at h6
    exact absurd h6 (nI_ne0 (Nat.succ_pos z) (by omega))

set_option maxRecDepth 100000 in
set_option maxHeartbeats 4000000 in
theorem c_X4_go_f (l : Launch) (D : va_G) (dA : Nat → ClassId) (base n : Nat) (ad : Fa) (I : Fi) (J : Fj) (R : Fr) (hT : ST n R) (p0 z : Nat) (zs : Nat → Nat) (hH : HI I zs) (hzs : zs p0 = z + 1) (hp : p0 < 5) (hz : z < 40) (hc : ¬ I 41 0 (40 * p0 + z) = 0) (f r k a : Nat) (pls ys : Nat → Nat) (hk : k < 40) (hon : I 38 0 (40 * p0 + z) = nI k) (ht : TKX I (40 * p0 + z) k a pls ys) (hfar : I 39 0 (40 * p0 + z) = nI a) (ha8 : a ≤ 8) (hf : I 23 0 k = nI f) (hf6 : f < 6) (hr : I 24 0 k = nI r) (hr8 : r ≤ 8) (hx : cms (I 35 0 k) f a r (fun i => J 34 0 (ys i)) = -2) : CT l D dA base yX4_go cX4_go 5 (some .int) 3 0 0 [.ref (ad 11 0), .int (nI p0)] ad (Nn n) I J R (po (some (.int 2)) ad (Nn n) (meI I J p0 z k a 2 0) (up3 J 34 0 k 0) R) := by
  refine CT.of 3 (L0 := [some (.ref (ad 11 0)), some (.int (nI p0)), none, none, none]) (by decide +kernel) rfl (Nat.le_of_ble_eq_true rfl) ?_
  intro p e s m args below meth c C
  have he : 40 * p0 + z < 200 := by omega
  have hs : I 37 0 p0 = nI (z + 1) := by rw [(hH p0 hp).1, hzs]
  refine x_aload_n C dX4_go_0 rfl ?_
  refine x_getF C hT f_X4_54 rfl rfl (by first | assumption | exact Nat.one_pos) dX4_go_1 ?_
  refine x_iload_n C dX4_go_4 rfl ?_
  refine x_ialdN C (p0) rfl rfl rfl (by first | assumption | exact Nat.one_pos) hp (by decide) dX4_go_5 ?_
  refine x_if_ne C 11 dX4_go_6 (by decide) (fun h6 => ?_) (fun h6 => ?_)
  · skip
    refine x_bipush C 40 (by decide) dX4_go_11 ?_
    refine x_iload_n C dX4_go_13 rfl ?_
    refine x_imul C dX4_go_14 ?_
    refine x_aload_n C dX4_go_15 rfl ?_
    refine x_getF C hT f_X4_54 rfl rfl (by first | assumption | exact Nat.one_pos) dX4_go_16 ?_
    refine x_iload_n C dX4_go_19 rfl ?_
    refine x_ialdN C (p0) rfl rfl rfl (by first | assumption | exact Nat.one_pos) hp (by decide) dX4_go_20 ?_
    refine x_iadd C dX4_go_21 ?_
    refine x_iconst C 1 (by decide) dX4_go_22 ?_
    refine x_isub C dX4_go_23 ?_
    rw [hs, ix40, show 40 * p0 + (z + 1) = (40 * p0 + z) + 1 from rfl, nI_pred]
    refine x_istore_n C dX4_go_24 (by decide) rfl rfl ?_
    refine x_aload_n C dX4_go_25 rfl ?_
    refine x_getF C hT f_X4_66 rfl rfl (by first | assumption | exact Nat.one_pos) dX4_go_26 ?_
    refine x_iload_n C dX4_go_29 rfl ?_
    refine x_zaldN C (40 * p0 + z) rfl rfl rfl (by first | assumption | exact Nat.one_pos) he (by decide) dX4_go_30 ?_
    refine x_if_ne C 41 dX4_go_31 (by decide) (fun h31 => ?_) (fun h31 => ?_)
    · skip
      refine x_aload_n C dX4_go_41 rfl ?_
      refine x_iload_n C dX4_go_42 rfl ?_
      refine x_cV1 C yo_X4_comes m_X4_146 rfl rfl (by first | assumption | exact Nat.one_pos) (c_X4_comes l D dA base n ad I J R hT (40 * p0 + z) f r k a pls ys he hk hon ht hfar ha8 hf hf6 hr hr8) dX4_go_43 rfl rfl (Nat.le_of_ble_eq_true rfl) ⟨by decide, by decide⟩ ⟨by decide, by decide⟩ ?_
      rw [hx]
      refine x_istore_n C dX4_go_46 (by decide) rfl rfl ?_
      refine x_iload_n C dX4_go_47 rfl ?_
      refine x_bipush C (-2) (by decide) dX4_go_48 ?_
      refine x_icmp_ne C 61 dX4_go_50 (by decide) (fun h50 => ?_) (fun h50 => ?_)
      · skip
        exact absurd rfl h50
      · skip
        refine x_aload_n C dX4_go_53 rfl ?_
        refine x_iload_n C dX4_go_54 rfl ?_
        refine x_iconst C 2 (by decide) dX4_go_55 ?_
        refine x_lconst C 0 (by decide) dX4_go_56 ?_
        refine x_cV1 C yo_X4_end m_X4_149 rfl rfl (by first | assumption | exact Nat.one_pos) (c_X4_end_f l D dA base n ad I J R hT p0 z k a hp hz hs hk hon hfar ha8 2 (by decide) 0) dX4_go_57 rfl rfl (Nat.le_of_ble_eq_true rfl) ⟨by decide, by decide⟩ ⟨by decide, by decide⟩ ?_
        exact x_iret C (po_i _ _ _ _ _ _) dX4_go_60
    · skip
      exact absurd h31 hc
  · skip
    rw [hs] at h6
    exact absurd h6 (nI_ne0 (Nat.succ_pos z) (by omega))

set_option maxRecDepth 100000 in
set_option maxHeartbeats 4000000 in
theorem c_X4_go_v (l : Launch) (D : va_G) (dA : Nat → ClassId) (base n : Nat) (ad : Fa) (I : Fi) (J : Fj) (R : Fr) (hT : ST n R) (p0 z : Nat) (zs : Nat → Nat) (hH : HI I zs) (hzs : zs p0 = z + 1) (hp : p0 < 5) (hz : z < 40) (hc : ¬ I 41 0 (40 * p0 + z) = 0) (f r k a : Nat) (pls ys : Nat → Nat) (hk : k < 40) (hon : I 38 0 (40 * p0 + z) = nI k) (ht : TKX I (40 * p0 + z) k a pls ys) (hfar : I 39 0 (40 * p0 + z) = nI a) (ha8 : a ≤ 8) (hf : I 23 0 k = nI f) (hf6 : f < 6) (hr : I 24 0 k = nI r) (hr8 : r ≤ 8) (hx : cms (I 35 0 k) f a r (fun i => J 34 0 (ys i)) = -1) (h3 : f = 3 → ∀ i, 0 < i → i < a → ¬ J 34 0 (ys i) = 0) : CT l D dA base yX4_go cX4_go 5 (some .int) 3 0 0 [.ref (ad 11 0), .int (nI p0)] ad (Nn n) I J R (po (some (.int 2)) ad (Nn n) (meI I J p0 z k a 1 (ocm f a (fun i => J 34 0 (ys i)))) (up3 J 34 0 k (ocm f a (fun i => J 34 0 (ys i)))) R) := by
  refine CT.of 3 (L0 := [some (.ref (ad 11 0)), some (.int (nI p0)), none, none, none]) (by decide +kernel) rfl (Nat.le_of_ble_eq_true rfl) ?_
  intro p e s m args below meth c C
  have he : 40 * p0 + z < 200 := by omega
  have hs : I 37 0 p0 = nI (z + 1) := by rw [(hH p0 hp).1, hzs]
  refine x_aload_n C dX4_go_0 rfl ?_
  refine x_getF C hT f_X4_54 rfl rfl (by first | assumption | exact Nat.one_pos) dX4_go_1 ?_
  refine x_iload_n C dX4_go_4 rfl ?_
  refine x_ialdN C (p0) rfl rfl rfl (by first | assumption | exact Nat.one_pos) hp (by decide) dX4_go_5 ?_
  refine x_if_ne C 11 dX4_go_6 (by decide) (fun h6 => ?_) (fun h6 => ?_)
  · skip
    refine x_bipush C 40 (by decide) dX4_go_11 ?_
    refine x_iload_n C dX4_go_13 rfl ?_
    refine x_imul C dX4_go_14 ?_
    refine x_aload_n C dX4_go_15 rfl ?_
    refine x_getF C hT f_X4_54 rfl rfl (by first | assumption | exact Nat.one_pos) dX4_go_16 ?_
    refine x_iload_n C dX4_go_19 rfl ?_
    refine x_ialdN C (p0) rfl rfl rfl (by first | assumption | exact Nat.one_pos) hp (by decide) dX4_go_20 ?_
    refine x_iadd C dX4_go_21 ?_
    refine x_iconst C 1 (by decide) dX4_go_22 ?_
    refine x_isub C dX4_go_23 ?_
    rw [hs, ix40, show 40 * p0 + (z + 1) = (40 * p0 + z) + 1 from rfl, nI_pred]
    refine x_istore_n C dX4_go_24 (by decide) rfl rfl ?_
    refine x_aload_n C dX4_go_25 rfl ?_
    refine x_getF C hT f_X4_66 rfl rfl (by first | assumption | exact Nat.one_pos) dX4_go_26 ?_
    refine x_iload_n C dX4_go_29 rfl ?_
    refine x_zaldN C (40 * p0 + z) rfl rfl rfl (by first | assumption | exact Nat.one_pos) he (by decide) dX4_go_30 ?_
    refine x_if_ne C 41 dX4_go_31 (by decide) (fun h31 => ?_) (fun h31 => ?_)
    · skip
      refine x_aload_n C dX4_go_41 rfl ?_
      refine x_iload_n C dX4_go_42 rfl ?_
      refine x_cV1 C yo_X4_comes m_X4_146 rfl rfl (by first | assumption | exact Nat.one_pos) (c_X4_comes l D dA base n ad I J R hT (40 * p0 + z) f r k a pls ys he hk hon ht hfar ha8 hf hf6 hr hr8) dX4_go_43 rfl rfl (Nat.le_of_ble_eq_true rfl) ⟨by decide, by decide⟩ ⟨by decide, by decide⟩ ?_
      rw [hx]
      refine x_istore_n C dX4_go_46 (by decide) rfl rfl ?_
      refine x_iload_n C dX4_go_47 rfl ?_
      refine x_bipush C (-2) (by decide) dX4_go_48 ?_
      refine x_icmp_ne C 61 dX4_go_50 (by decide) (fun h50 => ?_) (fun h50 => ?_)
      · skip
        refine x_iload_n C dX4_go_61 rfl ?_
        refine x_iconst C (-1) (by decide) dX4_go_62 ?_
        refine x_icmp_ne C 78 dX4_go_63 (by decide) (fun h63 => ?_) (fun h63 => ?_)
        · skip
          exact absurd rfl h63
        · skip
          refine x_aload_n C dX4_go_66 rfl ?_
          refine x_iload_n C dX4_go_67 rfl ?_
          refine x_iconst C 1 (by decide) dX4_go_68 ?_
          refine x_aload_n C dX4_go_69 rfl ?_
          refine x_iload_n C dX4_go_70 rfl ?_
          refine x_cV1 C yo_X4_outcome m_X4_153 rfl rfl (by first | assumption | exact Nat.one_pos) (c_X4_outcome l D dA base n ad I J R hT (40 * p0 + z) f k a pls ys he hk hon ht hfar ha8 hf hf6 h3) dX4_go_71 rfl rfl (Nat.le_of_ble_eq_true rfl) ⟨by decide, by decide⟩ ⟨by decide, by decide⟩ ?_
          refine x_cV1 C yo_X4_end m_X4_149 rfl rfl (by first | assumption | exact Nat.one_pos) (c_X4_end_v l D dA base n ad I J R hT p0 z k a hp hz hs hk hon hfar ha8 _) dX4_go_74 rfl rfl (Nat.le_of_ble_eq_true rfl) ⟨by decide, by decide⟩ ⟨by decide, by decide⟩ ?_
          exact x_iret C (po_i _ _ _ _ _ _) dX4_go_77
      · skip
        exact absurd h50 (by decide)
    · skip
      exact absurd h31 hc
  · skip
    rw [hs] at h6
    exact absurd h6 (nI_ne0 (Nat.succ_pos z) (by omega))

set_option maxRecDepth 100000 in
set_option maxHeartbeats 4000000 in
theorem c_X4_go_wait (l : Launch) (D : va_G) (dA : Nat → ClassId) (base n : Nat) (ad : Fa) (I : Fi) (J : Fj) (R : Fr) (hT : ST n R) (p0 z : Nat) (zs : Nat → Nat) (hH : HI I zs) (hzs : zs p0 = z + 1) (hp : p0 < 5) (hz : z < 40) (hc : ¬ I 41 0 (40 * p0 + z) = 0) (f r k a : Nat) (pls ys : Nat → Nat) (hk : k < 40) (hon : I 38 0 (40 * p0 + z) = nI k) (ht : TKX I (40 * p0 + z) k a pls ys) (hfar : I 39 0 (40 * p0 + z) = nI a) (ha8 : a ≤ 8) (hf : I 23 0 k = nI f) (hf6 : f < 6) (hr : I 24 0 k = nI r) (hr8 : r ≤ 8) (pl j : Nat) (hx : cms (I 35 0 k) f a r (fun i => J 34 0 (ys i)) = nI pl) (hpl8 : pl < 8) (hj : I 25 0 (8 * k + pl) = nI j) (hj40 : j < 40) (hsu : msure I j = false) (hw : ¬ pofP I (nI j) zs 5 = -1) : CT l D dA base yX4_go cX4_go 5 (some .int) 3 0 0 [.ref (ad 11 0), .int (nI p0)] ad (Nn n) I J R (po (some (.int 3)) ad (Nn n) I J R) := by
  refine CT.of 3 (L0 := [some (.ref (ad 11 0)), some (.int (nI p0)), none, none, none]) (by decide +kernel) rfl (Nat.le_of_ble_eq_true rfl) ?_
  intro p e s m args below meth c C
  have he : 40 * p0 + z < 200 := by omega
  have hs : I 37 0 p0 = nI (z + 1) := by rw [(hH p0 hp).1, hzs]
  refine x_aload_n C dX4_go_0 rfl ?_
  refine x_getF C hT f_X4_54 rfl rfl (by first | assumption | exact Nat.one_pos) dX4_go_1 ?_
  refine x_iload_n C dX4_go_4 rfl ?_
  refine x_ialdN C (p0) rfl rfl rfl (by first | assumption | exact Nat.one_pos) hp (by decide) dX4_go_5 ?_
  refine x_if_ne C 11 dX4_go_6 (by decide) (fun h6 => ?_) (fun h6 => ?_)
  · skip
    refine x_bipush C 40 (by decide) dX4_go_11 ?_
    refine x_iload_n C dX4_go_13 rfl ?_
    refine x_imul C dX4_go_14 ?_
    refine x_aload_n C dX4_go_15 rfl ?_
    refine x_getF C hT f_X4_54 rfl rfl (by first | assumption | exact Nat.one_pos) dX4_go_16 ?_
    refine x_iload_n C dX4_go_19 rfl ?_
    refine x_ialdN C (p0) rfl rfl rfl (by first | assumption | exact Nat.one_pos) hp (by decide) dX4_go_20 ?_
    refine x_iadd C dX4_go_21 ?_
    refine x_iconst C 1 (by decide) dX4_go_22 ?_
    refine x_isub C dX4_go_23 ?_
    rw [hs, ix40, show 40 * p0 + (z + 1) = (40 * p0 + z) + 1 from rfl, nI_pred]
    refine x_istore_n C dX4_go_24 (by decide) rfl rfl ?_
    refine x_aload_n C dX4_go_25 rfl ?_
    refine x_getF C hT f_X4_66 rfl rfl (by first | assumption | exact Nat.one_pos) dX4_go_26 ?_
    refine x_iload_n C dX4_go_29 rfl ?_
    refine x_zaldN C (40 * p0 + z) rfl rfl rfl (by first | assumption | exact Nat.one_pos) he (by decide) dX4_go_30 ?_
    refine x_if_ne C 41 dX4_go_31 (by decide) (fun h31 => ?_) (fun h31 => ?_)
    · skip
      refine x_aload_n C dX4_go_41 rfl ?_
      refine x_iload_n C dX4_go_42 rfl ?_
      refine x_cV1 C yo_X4_comes m_X4_146 rfl rfl (by first | assumption | exact Nat.one_pos) (c_X4_comes l D dA base n ad I J R hT (40 * p0 + z) f r k a pls ys he hk hon ht hfar ha8 hf hf6 hr hr8) dX4_go_43 rfl rfl (Nat.le_of_ble_eq_true rfl) ⟨by decide, by decide⟩ ⟨by decide, by decide⟩ ?_
      rw [hx]
      refine x_istore_n C dX4_go_46 (by decide) rfl rfl ?_
      refine x_iload_n C dX4_go_47 rfl ?_
      refine x_bipush C (-2) (by decide) dX4_go_48 ?_
      refine x_icmp_ne C 61 dX4_go_50 (by decide) (fun h50 => ?_) (fun h50 => ?_)
      · skip
        refine x_iload_n C dX4_go_61 rfl ?_
        refine x_iconst C (-1) (by decide) dX4_go_62 ?_
        refine x_icmp_ne C 78 dX4_go_63 (by decide) (fun h63 => ?_) (fun h63 => ?_)
        · skip
          refine x_aload_n C dX4_go_78 rfl ?_
          refine x_aload_n C dX4_go_79 rfl ?_
          refine x_getF C hT f_X4_57 rfl rfl (by first | assumption | exact Nat.one_pos) dX4_go_80 ?_
          refine x_iload_n C dX4_go_83 rfl ?_
          refine x_ialdN C (40 * p0 + z) rfl rfl rfl (by first | assumption | exact Nat.one_pos) he (by decide) dX4_go_84 ?_
          rw [hon]
          refine x_iload_n C dX4_go_85 rfl ?_
          refine x_cV1 C yo_X4_rowKey m_X4_97 rfl rfl (by first | assumption | exact Nat.one_pos) (c_X4_rowKey l D dA base n ad I J R hT k pl hk hpl8) dX4_go_86 rfl rfl (Nat.le_of_ble_eq_true rfl) ⟨by decide, by decide⟩ ⟨by decide, by decide⟩ ?_
          rw [hj]
          refine x_istore C dX4_go_89 (by decide) rfl rfl ?_
          refine x_aload_n C dX4_go_91 rfl ?_
          refine x_iload C dX4_go_92 rfl ?_
          refine x_cV1 C yo_X4_isSure m_X4_123 rfl rfl (by first | assumption | exact Nat.one_pos) (c_X4_isSure l D dA base n ad I J R hT j hj40) dX4_go_94 rfl rfl (Nat.le_of_ble_eq_true rfl) ⟨by decide, by decide⟩ ⟨by decide, by decide⟩ ?_
          refine x_if_ne C 108 dX4_go_97 (by decide) (fun h97 => ?_) (fun h97 => ?_)
          · skip
            rw [hsu] at h97
            exact absurd rfl h97
          · skip
            refine x_aload_n C dX4_go_100 rfl ?_
            refine x_iload_n C dX4_go_101 rfl ?_
            refine x_iload C dX4_go_102 rfl ?_
            refine x_cV1 C yo_X4_await m_X4_140 rfl rfl (by first | assumption | exact Nat.one_pos) (c_X4_await_w l D dA base n ad I J R hT p0 j zs hH hw) dX4_go_104 rfl rfl (Nat.le_of_ble_eq_true rfl) ⟨by decide, by decide⟩ ⟨by decide, by decide⟩ ?_
            exact x_iret C (po_i _ _ _ _ _ _) dX4_go_107
        · skip
          exact absurd (show nI pl < 0 by rw [h63]; decide) (nI_pos (by omega))
      · skip
        exact absurd (show nI pl < 0 by rw [h50]; decide) (nI_pos (by omega))
    · skip
      exact absurd h31 hc
  · skip
    rw [hs] at h6
    exact absurd h6 (nI_ne0 (Nat.succ_pos z) (by omega))

set_option maxRecDepth 100000 in
set_option maxHeartbeats 4000000 in
theorem c_X4_go_put (l : Launch) (D : va_G) (dA : Nat → ClassId) (base n : Nat) (ad : Fa) (I : Fi) (J : Fj) (R : Fr) (hT : ST n R) (p0 z : Nat) (zs : Nat → Nat) (hH : HI I zs) (hzs : zs p0 = z + 1) (hp : p0 < 5) (hz : z < 40) (hc : ¬ I 41 0 (40 * p0 + z) = 0) (f r k a : Nat) (pls ys : Nat → Nat) (hk : k < 40) (hon : I 38 0 (40 * p0 + z) = nI k) (ht : TKX I (40 * p0 + z) k a pls ys) (hfar : I 39 0 (40 * p0 + z) = nI a) (ha8 : a ≤ 8) (hf : I 23 0 k = nI f) (hf6 : f < 6) (hr : I 24 0 k = nI r) (hr8 : r ≤ 8) (pl j : Nat) (hx : cms (I 35 0 k) f a r (fun i => J 34 0 (ys i)) = nI pl) (hpl8 : pl < 8) (hj : I 25 0 (8 * k + pl) = nI j) (hj40 : j < 40) (hsu : msure I j = false) (hw : pofP I (nI j) zs 5 = -1) (hz2 : zs p0 < 40) : CT l D dA base yX4_go cX4_go 5 (some .int) 3 0 0 [.ref (ad 11 0), .int (nI p0)] ad (Nn n) I J R (po (some (.int 1)) ad (Nn n) (lyI I p0 j (zs p0)) J R) := by
  refine CT.of 3 (L0 := [some (.ref (ad 11 0)), some (.int (nI p0)), none, none, none]) (by decide +kernel) rfl (Nat.le_of_ble_eq_true rfl) ?_
  intro p e s m args below meth c C
  have he : 40 * p0 + z < 200 := by omega
  have hs : I 37 0 p0 = nI (z + 1) := by rw [(hH p0 hp).1, hzs]
  refine x_aload_n C dX4_go_0 rfl ?_
  refine x_getF C hT f_X4_54 rfl rfl (by first | assumption | exact Nat.one_pos) dX4_go_1 ?_
  refine x_iload_n C dX4_go_4 rfl ?_
  refine x_ialdN C (p0) rfl rfl rfl (by first | assumption | exact Nat.one_pos) hp (by decide) dX4_go_5 ?_
  refine x_if_ne C 11 dX4_go_6 (by decide) (fun h6 => ?_) (fun h6 => ?_)
  · skip
    refine x_bipush C 40 (by decide) dX4_go_11 ?_
    refine x_iload_n C dX4_go_13 rfl ?_
    refine x_imul C dX4_go_14 ?_
    refine x_aload_n C dX4_go_15 rfl ?_
    refine x_getF C hT f_X4_54 rfl rfl (by first | assumption | exact Nat.one_pos) dX4_go_16 ?_
    refine x_iload_n C dX4_go_19 rfl ?_
    refine x_ialdN C (p0) rfl rfl rfl (by first | assumption | exact Nat.one_pos) hp (by decide) dX4_go_20 ?_
    refine x_iadd C dX4_go_21 ?_
    refine x_iconst C 1 (by decide) dX4_go_22 ?_
    refine x_isub C dX4_go_23 ?_
    rw [hs, ix40, show 40 * p0 + (z + 1) = (40 * p0 + z) + 1 from rfl, nI_pred]
    refine x_istore_n C dX4_go_24 (by decide) rfl rfl ?_
    refine x_aload_n C dX4_go_25 rfl ?_
    refine x_getF C hT f_X4_66 rfl rfl (by first | assumption | exact Nat.one_pos) dX4_go_26 ?_
    refine x_iload_n C dX4_go_29 rfl ?_
    refine x_zaldN C (40 * p0 + z) rfl rfl rfl (by first | assumption | exact Nat.one_pos) he (by decide) dX4_go_30 ?_
    refine x_if_ne C 41 dX4_go_31 (by decide) (fun h31 => ?_) (fun h31 => ?_)
    · skip
      refine x_aload_n C dX4_go_41 rfl ?_
      refine x_iload_n C dX4_go_42 rfl ?_
      refine x_cV1 C yo_X4_comes m_X4_146 rfl rfl (by first | assumption | exact Nat.one_pos) (c_X4_comes l D dA base n ad I J R hT (40 * p0 + z) f r k a pls ys he hk hon ht hfar ha8 hf hf6 hr hr8) dX4_go_43 rfl rfl (Nat.le_of_ble_eq_true rfl) ⟨by decide, by decide⟩ ⟨by decide, by decide⟩ ?_
      rw [hx]
      refine x_istore_n C dX4_go_46 (by decide) rfl rfl ?_
      refine x_iload_n C dX4_go_47 rfl ?_
      refine x_bipush C (-2) (by decide) dX4_go_48 ?_
      refine x_icmp_ne C 61 dX4_go_50 (by decide) (fun h50 => ?_) (fun h50 => ?_)
      · skip
        refine x_iload_n C dX4_go_61 rfl ?_
        refine x_iconst C (-1) (by decide) dX4_go_62 ?_
        refine x_icmp_ne C 78 dX4_go_63 (by decide) (fun h63 => ?_) (fun h63 => ?_)
        · skip
          refine x_aload_n C dX4_go_78 rfl ?_
          refine x_aload_n C dX4_go_79 rfl ?_
          refine x_getF C hT f_X4_57 rfl rfl (by first | assumption | exact Nat.one_pos) dX4_go_80 ?_
          refine x_iload_n C dX4_go_83 rfl ?_
          refine x_ialdN C (40 * p0 + z) rfl rfl rfl (by first | assumption | exact Nat.one_pos) he (by decide) dX4_go_84 ?_
          rw [hon]
          refine x_iload_n C dX4_go_85 rfl ?_
          refine x_cV1 C yo_X4_rowKey m_X4_97 rfl rfl (by first | assumption | exact Nat.one_pos) (c_X4_rowKey l D dA base n ad I J R hT k pl hk hpl8) dX4_go_86 rfl rfl (Nat.le_of_ble_eq_true rfl) ⟨by decide, by decide⟩ ⟨by decide, by decide⟩ ?_
          rw [hj]
          refine x_istore C dX4_go_89 (by decide) rfl rfl ?_
          refine x_aload_n C dX4_go_91 rfl ?_
          refine x_iload C dX4_go_92 rfl ?_
          refine x_cV1 C yo_X4_isSure m_X4_123 rfl rfl (by first | assumption | exact Nat.one_pos) (c_X4_isSure l D dA base n ad I J R hT j hj40) dX4_go_94 rfl rfl (Nat.le_of_ble_eq_true rfl) ⟨by decide, by decide⟩ ⟨by decide, by decide⟩ ?_
          refine x_if_ne C 108 dX4_go_97 (by decide) (fun h97 => ?_) (fun h97 => ?_)
          · skip
            rw [hsu] at h97
            exact absurd rfl h97
          · skip
            refine x_aload_n C dX4_go_100 rfl ?_
            refine x_iload_n C dX4_go_101 rfl ?_
            refine x_iload C dX4_go_102 rfl ?_
            refine x_cV1 C yo_X4_await m_X4_140 rfl rfl (by first | assumption | exact Nat.one_pos) (c_X4_await_p l D dA base n ad I J R hT p0 j zs hH hw hp hj40 hz2) dX4_go_104 rfl rfl (Nat.le_of_ble_eq_true rfl) ⟨by decide, by decide⟩ ⟨by decide, by decide⟩ ?_
            exact x_iret C (po_i _ _ _ _ _ _) dX4_go_107
        · skip
          exact absurd (show nI pl < 0 by rw [h63]; decide) (nI_pos (by omega))
      · skip
        exact absurd (show nI pl < 0 by rw [h50]; decide) (nI_pos (by omega))
    · skip
      exact absurd h31 hc
  · skip
    rw [hs] at h6
    exact absurd h6 (nI_ne0 (Nat.succ_pos z) (by omega))

set_option maxRecDepth 100000 in
set_option maxHeartbeats 4000000 in
theorem c_X4_go_take (l : Launch) (D : va_G) (dA : Nat → ClassId) (base n : Nat) (ad : Fa) (I : Fi) (J : Fj) (R : Fr) (hT : ST n R) (p0 z : Nat) (zs : Nat → Nat) (hH : HI I zs) (hzs : zs p0 = z + 1) (hp : p0 < 5) (hz : z < 40) (hc : ¬ I 41 0 (40 * p0 + z) = 0) (f r k a : Nat) (pls ys : Nat → Nat) (hk : k < 40) (hon : I 38 0 (40 * p0 + z) = nI k) (ht : TKX I (40 * p0 + z) k a pls ys) (hfar : I 39 0 (40 * p0 + z) = nI a) (ha8 : a ≤ 8) (hf : I 23 0 k = nI f) (hf6 : f < 6) (hr : I 24 0 k = nI r) (hr8 : r ≤ 8) (pl j : Nat) (hx : cms (I 35 0 k) f a r (fun i => J 34 0 (ys i)) = nI pl) (hpl8 : pl < 8) (hj : I 25 0 (8 * k + pl) = nI j) (hj40 : j < 40) (ha7 : a < 8) (hsu : msure I j = true) (hh : I 26 0 j = 1) : CT l D dA base yX4_go cX4_go 5 (some .int) 3 0 0 [.ref (ad 11 0), .int (nI p0)] ad (Nn n) I J R (po (some (.int 6)) ad (Nn n) (up3 (up3 I 40 0 (8 * (40 * p0 + z) + a) (nI pl)) 39 0 (40 * p0 + z) (nI (a + 1))) J R) := by
  refine CT.of 3 (L0 := [some (.ref (ad 11 0)), some (.int (nI p0)), none, none, none]) (by decide +kernel) rfl (Nat.le_of_ble_eq_true rfl) ?_
  intro p e s m args below meth c C
  have he : 40 * p0 + z < 200 := by omega
  have hs : I 37 0 p0 = nI (z + 1) := by rw [(hH p0 hp).1, hzs]
  refine x_aload_n C dX4_go_0 rfl ?_
  refine x_getF C hT f_X4_54 rfl rfl (by first | assumption | exact Nat.one_pos) dX4_go_1 ?_
  refine x_iload_n C dX4_go_4 rfl ?_
  refine x_ialdN C (p0) rfl rfl rfl (by first | assumption | exact Nat.one_pos) hp (by decide) dX4_go_5 ?_
  refine x_if_ne C 11 dX4_go_6 (by decide) (fun h6 => ?_) (fun h6 => ?_)
  · skip
    refine x_bipush C 40 (by decide) dX4_go_11 ?_
    refine x_iload_n C dX4_go_13 rfl ?_
    refine x_imul C dX4_go_14 ?_
    refine x_aload_n C dX4_go_15 rfl ?_
    refine x_getF C hT f_X4_54 rfl rfl (by first | assumption | exact Nat.one_pos) dX4_go_16 ?_
    refine x_iload_n C dX4_go_19 rfl ?_
    refine x_ialdN C (p0) rfl rfl rfl (by first | assumption | exact Nat.one_pos) hp (by decide) dX4_go_20 ?_
    refine x_iadd C dX4_go_21 ?_
    refine x_iconst C 1 (by decide) dX4_go_22 ?_
    refine x_isub C dX4_go_23 ?_
    rw [hs, ix40, show 40 * p0 + (z + 1) = (40 * p0 + z) + 1 from rfl, nI_pred]
    refine x_istore_n C dX4_go_24 (by decide) rfl rfl ?_
    refine x_aload_n C dX4_go_25 rfl ?_
    refine x_getF C hT f_X4_66 rfl rfl (by first | assumption | exact Nat.one_pos) dX4_go_26 ?_
    refine x_iload_n C dX4_go_29 rfl ?_
    refine x_zaldN C (40 * p0 + z) rfl rfl rfl (by first | assumption | exact Nat.one_pos) he (by decide) dX4_go_30 ?_
    refine x_if_ne C 41 dX4_go_31 (by decide) (fun h31 => ?_) (fun h31 => ?_)
    · skip
      refine x_aload_n C dX4_go_41 rfl ?_
      refine x_iload_n C dX4_go_42 rfl ?_
      refine x_cV1 C yo_X4_comes m_X4_146 rfl rfl (by first | assumption | exact Nat.one_pos) (c_X4_comes l D dA base n ad I J R hT (40 * p0 + z) f r k a pls ys he hk hon ht hfar ha8 hf hf6 hr hr8) dX4_go_43 rfl rfl (Nat.le_of_ble_eq_true rfl) ⟨by decide, by decide⟩ ⟨by decide, by decide⟩ ?_
      rw [hx]
      refine x_istore_n C dX4_go_46 (by decide) rfl rfl ?_
      refine x_iload_n C dX4_go_47 rfl ?_
      refine x_bipush C (-2) (by decide) dX4_go_48 ?_
      refine x_icmp_ne C 61 dX4_go_50 (by decide) (fun h50 => ?_) (fun h50 => ?_)
      · skip
        refine x_iload_n C dX4_go_61 rfl ?_
        refine x_iconst C (-1) (by decide) dX4_go_62 ?_
        refine x_icmp_ne C 78 dX4_go_63 (by decide) (fun h63 => ?_) (fun h63 => ?_)
        · skip
          refine x_aload_n C dX4_go_78 rfl ?_
          refine x_aload_n C dX4_go_79 rfl ?_
          refine x_getF C hT f_X4_57 rfl rfl (by first | assumption | exact Nat.one_pos) dX4_go_80 ?_
          refine x_iload_n C dX4_go_83 rfl ?_
          refine x_ialdN C (40 * p0 + z) rfl rfl rfl (by first | assumption | exact Nat.one_pos) he (by decide) dX4_go_84 ?_
          rw [hon]
          refine x_iload_n C dX4_go_85 rfl ?_
          refine x_cV1 C yo_X4_rowKey m_X4_97 rfl rfl (by first | assumption | exact Nat.one_pos) (c_X4_rowKey l D dA base n ad I J R hT k pl hk hpl8) dX4_go_86 rfl rfl (Nat.le_of_ble_eq_true rfl) ⟨by decide, by decide⟩ ⟨by decide, by decide⟩ ?_
          rw [hj]
          refine x_istore C dX4_go_89 (by decide) rfl rfl ?_
          refine x_aload_n C dX4_go_91 rfl ?_
          refine x_iload C dX4_go_92 rfl ?_
          refine x_cV1 C yo_X4_isSure m_X4_123 rfl rfl (by first | assumption | exact Nat.one_pos) (c_X4_isSure l D dA base n ad I J R hT j hj40) dX4_go_94 rfl rfl (Nat.le_of_ble_eq_true rfl) ⟨by decide, by decide⟩ ⟨by decide, by decide⟩ ?_
          refine x_if_ne C 108 dX4_go_97 (by decide) (fun h97 => ?_) (fun h97 => ?_)
          · skip
            refine x_aload_n C dX4_go_108 rfl ?_
            refine x_getF C hT f_X4_63 rfl rfl (by first | assumption | exact Nat.one_pos) dX4_go_109 ?_
            refine x_bipush C 8 (by decide) dX4_go_112 ?_
            refine x_iload_n C dX4_go_114 rfl ?_
            refine x_imul C dX4_go_115 ?_
            refine x_aload_n C dX4_go_116 rfl ?_
            refine x_getF C hT f_X4_60 rfl rfl (by first | assumption | exact Nat.one_pos) dX4_go_117 ?_
            refine x_iload_n C dX4_go_120 rfl ?_
            refine x_ialdN C (40 * p0 + z) rfl rfl rfl (by first | assumption | exact Nat.one_pos) he (by decide) dX4_go_121 ?_
            rw [hfar]
            refine x_iadd C dX4_go_122 ?_
            refine x_iload_n C dX4_go_123 rfl ?_
            refine x_iastN C (8 * (40 * p0 + z) + a) (ix8 (40 * p0 + z) a) rfl rfl (by first | assumption | exact Nat.one_pos) (by omega) (by decide) dX4_go_124 ?_
            refine x_aload_n C dX4_go_125 rfl ?_
            refine x_getF C hT f_X4_60 rfl rfl (by first | assumption | exact Nat.one_pos) dX4_go_126 ?_
            refine x_iload_n C dX4_go_129 rfl ?_
            refine x_dup2 C rfl rfl dX4_go_130 ?_
            refine x_ialdN C (40 * p0 + z) rfl rfl rfl (by first | assumption | exact Nat.one_pos) he (by decide) dX4_go_131 ?_
            rw [up3_c _ _ _ _ _ (by decide), hfar]
            refine x_iconst C 1 (by decide) dX4_go_132 ?_
            refine x_iadd C dX4_go_133 ?_
            rw [nI_1]
            refine x_iastN C (40 * p0 + z) rfl rfl rfl (by first | assumption | exact Nat.one_pos) he (by decide) dX4_go_134 ?_
            refine x_aload_n C dX4_go_135 rfl ?_
            refine x_getF C hT f_X4_19 rfl rfl (by first | assumption | exact Nat.one_pos) dX4_go_136 ?_
            refine x_iload C dX4_go_139 rfl ?_
            refine x_ialdN C (j) rfl rfl rfl (by first | assumption | exact Nat.one_pos) hj40 (by decide) dX4_go_141 ?_
            rw [show (up3 (up3 I 40 0 (8 * (40 * p0 + z) + a) (nI pl)) 39 0 (40 * p0 + z) (nI (a + 1))) 26 0 j = I 26 0 j by simp [up3]]
            refine x_iconst C 1 (by decide) dX4_go_142 ?_
            refine x_icmp_ne C 151 dX4_go_143 (by decide) (fun h143 => ?_) (fun h143 => ?_)
            · skip
              exact absurd hh h143
            · skip
              refine x_bipush C 6 (by decide) dX4_go_146 ?_
              refine x_goto C 158 dX4_go_148 (by decide) ?_
              exact x_iret C (po_i _ _ _ _ _ _) dX4_go_158
          · skip
            rw [hsu] at h97
            exact absurd h97 (by decide)
        · skip
          exact absurd (show nI pl < 0 by rw [h63]; decide) (nI_pos (by omega))
      · skip
        exact absurd (show nI pl < 0 by rw [h50]; decide) (nI_pos (by omega))
    · skip
      exact absurd h31 hc
  · skip
    rw [hs] at h6
    exact absurd h6 (nI_ne0 (Nat.succ_pos z) (by omega))

set_option maxRecDepth 100000 in
set_option maxHeartbeats 4000000 in
theorem c_X4_go_by (l : Launch) (D : va_G) (dA : Nat → ClassId) (base n : Nat) (ad : Fa) (I : Fi) (J : Fj) (R : Fr) (hT : ST n R) (p0 z : Nat) (zs : Nat → Nat) (hH : HI I zs) (hzs : zs p0 = z + 1) (hp : p0 < 5) (hz : z < 40) (hc : ¬ I 41 0 (40 * p0 + z) = 0) (f r k a : Nat) (pls ys : Nat → Nat) (hk : k < 40) (hon : I 38 0 (40 * p0 + z) = nI k) (ht : TKX I (40 * p0 + z) k a pls ys) (hfar : I 39 0 (40 * p0 + z) = nI a) (ha8 : a ≤ 8) (hf : I 23 0 k = nI f) (hf6 : f < 6) (hr : I 24 0 k = nI r) (hr8 : r ≤ 8) (pl j : Nat) (hx : cms (I 35 0 k) f a r (fun i => J 34 0 (ys i)) = nI pl) (hpl8 : pl < 8) (hj : I 25 0 (8 * k + pl) = nI j) (hj40 : j < 40) (ha7 : a < 8) (hsu : msure I j = true) (hh : ¬ I 26 0 j = 1) : CT l D dA base yX4_go cX4_go 5 (some .int) 3 0 0 [.ref (ad 11 0), .int (nI p0)] ad (Nn n) I J R (po (some (.int 2)) ad (Nn n) (meI (up3 (up3 I 40 0 (8 * (40 * p0 + z) + a) (nI pl)) 39 0 (40 * p0 + z) (nI (a + 1))) J p0 z k (a + 1) 3 0) (up3 J 34 0 k 0) R) := by
  refine CT.of 3 (L0 := [some (.ref (ad 11 0)), some (.int (nI p0)), none, none, none]) (by decide +kernel) rfl (Nat.le_of_ble_eq_true rfl) ?_
  intro p e s m args below meth c C
  have he : 40 * p0 + z < 200 := by omega
  have hs : I 37 0 p0 = nI (z + 1) := by rw [(hH p0 hp).1, hzs]
  refine x_aload_n C dX4_go_0 rfl ?_
  refine x_getF C hT f_X4_54 rfl rfl (by first | assumption | exact Nat.one_pos) dX4_go_1 ?_
  refine x_iload_n C dX4_go_4 rfl ?_
  refine x_ialdN C (p0) rfl rfl rfl (by first | assumption | exact Nat.one_pos) hp (by decide) dX4_go_5 ?_
  refine x_if_ne C 11 dX4_go_6 (by decide) (fun h6 => ?_) (fun h6 => ?_)
  · skip
    refine x_bipush C 40 (by decide) dX4_go_11 ?_
    refine x_iload_n C dX4_go_13 rfl ?_
    refine x_imul C dX4_go_14 ?_
    refine x_aload_n C dX4_go_15 rfl ?_
    refine x_getF C hT f_X4_54 rfl rfl (by first | assumption | exact Nat.one_pos) dX4_go_16 ?_
    refine x_iload_n C dX4_go_19 rfl ?_
    refine x_ialdN C (p0) rfl rfl rfl (by first | assumption | exact Nat.one_pos) hp (by decide) dX4_go_20 ?_
    refine x_iadd C dX4_go_21 ?_
    refine x_iconst C 1 (by decide) dX4_go_22 ?_
    refine x_isub C dX4_go_23 ?_
    rw [hs, ix40, show 40 * p0 + (z + 1) = (40 * p0 + z) + 1 from rfl, nI_pred]
    refine x_istore_n C dX4_go_24 (by decide) rfl rfl ?_
    refine x_aload_n C dX4_go_25 rfl ?_
    refine x_getF C hT f_X4_66 rfl rfl (by first | assumption | exact Nat.one_pos) dX4_go_26 ?_
    refine x_iload_n C dX4_go_29 rfl ?_
    refine x_zaldN C (40 * p0 + z) rfl rfl rfl (by first | assumption | exact Nat.one_pos) he (by decide) dX4_go_30 ?_
    refine x_if_ne C 41 dX4_go_31 (by decide) (fun h31 => ?_) (fun h31 => ?_)
    · skip
      refine x_aload_n C dX4_go_41 rfl ?_
      refine x_iload_n C dX4_go_42 rfl ?_
      refine x_cV1 C yo_X4_comes m_X4_146 rfl rfl (by first | assumption | exact Nat.one_pos) (c_X4_comes l D dA base n ad I J R hT (40 * p0 + z) f r k a pls ys he hk hon ht hfar ha8 hf hf6 hr hr8) dX4_go_43 rfl rfl (Nat.le_of_ble_eq_true rfl) ⟨by decide, by decide⟩ ⟨by decide, by decide⟩ ?_
      rw [hx]
      refine x_istore_n C dX4_go_46 (by decide) rfl rfl ?_
      refine x_iload_n C dX4_go_47 rfl ?_
      refine x_bipush C (-2) (by decide) dX4_go_48 ?_
      refine x_icmp_ne C 61 dX4_go_50 (by decide) (fun h50 => ?_) (fun h50 => ?_)
      · skip
        refine x_iload_n C dX4_go_61 rfl ?_
        refine x_iconst C (-1) (by decide) dX4_go_62 ?_
        refine x_icmp_ne C 78 dX4_go_63 (by decide) (fun h63 => ?_) (fun h63 => ?_)
        · skip
          refine x_aload_n C dX4_go_78 rfl ?_
          refine x_aload_n C dX4_go_79 rfl ?_
          refine x_getF C hT f_X4_57 rfl rfl (by first | assumption | exact Nat.one_pos) dX4_go_80 ?_
          refine x_iload_n C dX4_go_83 rfl ?_
          refine x_ialdN C (40 * p0 + z) rfl rfl rfl (by first | assumption | exact Nat.one_pos) he (by decide) dX4_go_84 ?_
          rw [hon]
          refine x_iload_n C dX4_go_85 rfl ?_
          refine x_cV1 C yo_X4_rowKey m_X4_97 rfl rfl (by first | assumption | exact Nat.one_pos) (c_X4_rowKey l D dA base n ad I J R hT k pl hk hpl8) dX4_go_86 rfl rfl (Nat.le_of_ble_eq_true rfl) ⟨by decide, by decide⟩ ⟨by decide, by decide⟩ ?_
          rw [hj]
          refine x_istore C dX4_go_89 (by decide) rfl rfl ?_
          refine x_aload_n C dX4_go_91 rfl ?_
          refine x_iload C dX4_go_92 rfl ?_
          refine x_cV1 C yo_X4_isSure m_X4_123 rfl rfl (by first | assumption | exact Nat.one_pos) (c_X4_isSure l D dA base n ad I J R hT j hj40) dX4_go_94 rfl rfl (Nat.le_of_ble_eq_true rfl) ⟨by decide, by decide⟩ ⟨by decide, by decide⟩ ?_
          refine x_if_ne C 108 dX4_go_97 (by decide) (fun h97 => ?_) (fun h97 => ?_)
          · skip
            refine x_aload_n C dX4_go_108 rfl ?_
            refine x_getF C hT f_X4_63 rfl rfl (by first | assumption | exact Nat.one_pos) dX4_go_109 ?_
            refine x_bipush C 8 (by decide) dX4_go_112 ?_
            refine x_iload_n C dX4_go_114 rfl ?_
            refine x_imul C dX4_go_115 ?_
            refine x_aload_n C dX4_go_116 rfl ?_
            refine x_getF C hT f_X4_60 rfl rfl (by first | assumption | exact Nat.one_pos) dX4_go_117 ?_
            refine x_iload_n C dX4_go_120 rfl ?_
            refine x_ialdN C (40 * p0 + z) rfl rfl rfl (by first | assumption | exact Nat.one_pos) he (by decide) dX4_go_121 ?_
            rw [hfar]
            refine x_iadd C dX4_go_122 ?_
            refine x_iload_n C dX4_go_123 rfl ?_
            refine x_iastN C (8 * (40 * p0 + z) + a) (ix8 (40 * p0 + z) a) rfl rfl (by first | assumption | exact Nat.one_pos) (by omega) (by decide) dX4_go_124 ?_
            refine x_aload_n C dX4_go_125 rfl ?_
            refine x_getF C hT f_X4_60 rfl rfl (by first | assumption | exact Nat.one_pos) dX4_go_126 ?_
            refine x_iload_n C dX4_go_129 rfl ?_
            refine x_dup2 C rfl rfl dX4_go_130 ?_
            refine x_ialdN C (40 * p0 + z) rfl rfl rfl (by first | assumption | exact Nat.one_pos) he (by decide) dX4_go_131 ?_
            rw [up3_c _ _ _ _ _ (by decide), hfar]
            refine x_iconst C 1 (by decide) dX4_go_132 ?_
            refine x_iadd C dX4_go_133 ?_
            rw [nI_1]
            refine x_iastN C (40 * p0 + z) rfl rfl rfl (by first | assumption | exact Nat.one_pos) he (by decide) dX4_go_134 ?_
            refine x_aload_n C dX4_go_135 rfl ?_
            refine x_getF C hT f_X4_19 rfl rfl (by first | assumption | exact Nat.one_pos) dX4_go_136 ?_
            refine x_iload C dX4_go_139 rfl ?_
            refine x_ialdN C (j) rfl rfl rfl (by first | assumption | exact Nat.one_pos) hj40 (by decide) dX4_go_141 ?_
            rw [show (up3 (up3 I 40 0 (8 * (40 * p0 + z) + a) (nI pl)) 39 0 (40 * p0 + z) (nI (a + 1))) 26 0 j = I 26 0 j by simp [up3]]
            refine x_iconst C 1 (by decide) dX4_go_142 ?_
            refine x_icmp_ne C 151 dX4_go_143 (by decide) (fun h143 => ?_) (fun h143 => ?_)
            · skip
              refine x_aload_n C dX4_go_151 rfl ?_
              refine x_iload_n C dX4_go_152 rfl ?_
              refine x_iconst C 3 (by decide) dX4_go_153 ?_
              refine x_lconst C 0 (by decide) dX4_go_154 ?_
              refine x_cV1 C yo_X4_end m_X4_149 rfl rfl (by first | assumption | exact Nat.one_pos) (c_X4_end_f l D dA base n ad (up3 (up3 I 40 0 (8 * (40 * p0 + z) + a) (nI pl)) 39 0 (40 * p0 + z) (nI (a + 1))) J R hT p0 z k (a + 1) hp hz (by simp [up3, hs]) hk (by simp [up3, hon]) (by rw [up3_s]) (by omega) 3 (by decide) 0) dX4_go_155 rfl rfl (Nat.le_of_ble_eq_true rfl) ⟨by decide, by decide⟩ ⟨by decide, by decide⟩ ?_
              exact x_iret C (po_i _ _ _ _ _ _) dX4_go_158
            · skip
              exact absurd h143 hh
          · skip
            rw [hsu] at h97
            exact absurd h97 (by decide)
        · skip
          exact absurd (show nI pl < 0 by rw [h63]; decide) (nI_pos (by omega))
      · skip
        exact absurd (show nI pl < 0 by rw [h50]; decide) (nI_pos (by omega))
    · skip
      exact absurd h31 hc
  · skip
    rw [hs] at h6
    exact absurd h6 (nI_ne0 (Nat.succ_pos z) (by omega))

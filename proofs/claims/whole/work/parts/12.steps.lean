/-! KeyGraph's own steps: all piles emptied, a work ended, a check or a work goes on -/
theorem up3_r {α : Type} (f : Nat → Nat → Nat → α) (c i k : Nat) (v : α) (a b d : Nat) : up3 f c i k v a b d = if a = c ∧ b = i ∧ d = k then v else f a b d := rfl
theorem x_ldc {p : Program} {l : Launch} {e : Env} {Rm : Room} {s : State} {m : MethodId} {args : Array Value} {below : List Frame} {meth : Method} {c : Code} {Q : State → Prop} {cc : ByteArray} {own : String} {ret : Option FieldType} {D : va_G} {dA : Nat → ClassId} {base nL : Nat} {ad : Fa} {N : Nat → Nat} {I : Fi} {J : Fj} {R : Fr} {nc ns pc : Nat} {L : List (Option Value)} {st : List Value} (C : CX p s m args meth c cc nL own ret D dA base) {index : Nat} (v : Int32) (hk : Cond.constant own index v ∈ lw_gd) (d : decode cc pc = .ok (.ldc index, 2)) (k : GX p l e Rm s m args below meth c Q D dA base nL ad N I J R nc ns (pc + 2) L (.int v :: st)) : GX p l e Rm s m args below meth c Q D dA base nL ad N I J R nc ns pc L st := fun H locs ls hH hS hl => lv_ldc C.1 C.2.1 C.2.2.2.1 (C.2.2.2.2.1 _ hk) d (k H locs ls hH hS hl)
theorem tka_o (R : Fr) (p0 : Nat) : ∀ (z : Nat) (I : Fi) (c b d : Nat), ¬ (c = 4 ∧ d = 16) → ¬ (c = 9 ∧ b = p0 ∧ d = 1) → tka R p0 z I c b d = I c b d
  | 0, I, c, b, d, _, _ => rfl
  | z + 1, I, c, b, d, h1, h2 => by
    rw [tka, tka_o R p0 z _ c b d h1 h2]
    unfold ttI
    rw [up3_n _ _ _ _ _ h2, up3_n _ _ _ _ _ (fun q => h1 ⟨q.1, q.2.2⟩)]
/-- the piles 0 .. t - 1 are emptied -/
def epS (R : Fr) (zs : Nat → Nat) (I : Fi) : Nat → Fi
  | 0 => I
  | t + 1 => tka R t (zs t) (epS R zs I t)
def esum (zs : Nat → Nat) : Nat → Nat
  | 0 => 0
  | t + 1 => esum zs t + zs t
theorem epS_9 (R : Fr) (zs : Nat → Nat) (I : Fi) : ∀ (t q : Nat), t ≤ q → epS R zs I t 9 q 1 = I 9 q 1
  | 0, q, _ => rfl
  | t + 1, q, h => by
    rw [epS, tka_o _ _ _ _ _ _ _ (by omega) (by omega), epS_9 R zs I t q (by omega)]
/-- what the piles hold -/
def PL (n : Nat) (I : Fi) (R : Fr) (zs : Nat → Nat) : Prop := ∀ q, q < 5 → I 9 q 1 = nI (zs q) ∧ zs q ≤ 40 ∧ ∀ j, j < zs q → ∃ k, R 10 q j = some k ∧ k < n
set_option maxRecDepth 100000 in
set_option maxHeartbeats 4000000 in
theorem c_X3_emptyPiles (l : Launch) (D : va_G) (dA : Nat → ClassId) (base n : Nat) (ad : Fa) (I : Fi) (J : Fj) (R : Fr) (hT : ST n R) (hG : KG n I R) (zs : Nat → Nat) (hP : PL n I R zs) : CT l D dA base yX3_emptyPiles cX3_emptyPiles 3 (some .int) 3 0 0 [.ref (ad 0 0)] ad (Nn n) I J R (po (some (.int (nI (esum zs 5)))) ad (Nn n) (epS R zs I 5) J R) := by
  refine CT.of 2 (L0 := [some (.ref (ad 0 0)), none, none]) (by decide +kernel) rfl (Nat.le_of_ble_eq_true rfl) ?_
  intro p e s m args below meth c C
  have loop : ∀ (f t : Nat), t + f = 5 → GX p l e (rmX 3 0 0) s m args below meth c (MQ below (CQ D dA base (po (some (.int (nI (esum zs 5)))) ad (Nn n) (epS R zs I 5) J R)) args s 0 0 (fun q => base ≤ q)) D dA base 3 ad (Nn n) (epS R zs I t) J R 0 0 4 [some (.ref (ad 0 0)), some (.int (nI (esum zs t))), some (.int (nI t))] [] := by
    intro f
    induction f with
    | zero =>
      intro t ht
      have ht2 : t = 5 := by omega
      subst ht2
      refine x_iload_n C dX3_emptyPiles_4 rfl ?_
      refine x_aload_n C dX3_emptyPiles_5 rfl ?_
      refine x_getF C hT f_X3_17 rfl rfl (by first | assumption | exact Nat.one_pos) dX3_emptyPiles_6 ?_
      refine x_alen C 5 rfl rfl (by decide) (by first | assumption | exact Nat.one_pos) dX3_emptyPiles_9 ?_
      refine x_icmp_ge C 31 dX3_emptyPiles_10 (by decide) (fun h10 => ?_) (fun h10 => ?_)
      · skip
        refine x_iload_n C dX3_emptyPiles_31 rfl ?_
        exact x_iret C (po_i _ _ _ _ _ _) dX3_emptyPiles_32
      · skip
        exact absurd (Int32.le_refl _) h10
    | succ f ih =>
      intro t ht
      have ht5 : t < 5 := by omega
      obtain ⟨h9, hz40, hent⟩ := hP t ht5
      refine x_iload_n C dX3_emptyPiles_4 rfl ?_
      refine x_aload_n C dX3_emptyPiles_5 rfl ?_
      refine x_getF C hT f_X3_17 rfl rfl (by first | assumption | exact Nat.one_pos) dX3_emptyPiles_6 ?_
      refine x_alen C 5 rfl rfl (by decide) (by first | assumption | exact Nat.one_pos) dX3_emptyPiles_9 ?_
      refine x_icmp_ge C 31 dX3_emptyPiles_10 (by decide) (fun h10 => ?_) (fun h10 => ?_)
      · skip
        exact absurd h10 (nI_ge (b := 5) ht5 (by decide))
      · skip
        refine x_iload_n C dX3_emptyPiles_13 rfl ?_
        refine x_aload_n C dX3_emptyPiles_14 rfl ?_
        refine x_getF C hT f_X3_17 rfl rfl (by first | assumption | exact Nat.one_pos) dX3_emptyPiles_15 ?_
        refine x_iload_n C dX3_emptyPiles_18 rfl ?_
        refine x_aaldS C (t) rfl rfl rfl rfl (by first | assumption | exact Nat.one_pos) ht5 (by decide) (hG.2.2.2.1 t ht5) dX3_emptyPiles_19 ?_
        refine x_cV1 C yo_X1_takeAll m_X3_152 rfl rfl (by first | assumption | exact Nat.one_pos) (c_X1_takeAll l D dA base n ad (epS R zs I t) J R hT t (zs t) ht5 (by rw [epS_9 _ _ _ _ _ (Nat.le_refl _)]; exact h9) hz40 hent) dX3_emptyPiles_20 rfl rfl (Nat.le_of_ble_eq_true rfl) ⟨by decide, by decide⟩ ⟨by decide, by decide⟩ ?_
        refine x_iadd C dX3_emptyPiles_23 ?_
        refine x_istore_n C dX3_emptyPiles_24 (by decide) rfl rfl ?_
        refine x_iinc C _ dX3_emptyPiles_25 rfl rfl (by decide) rfl rfl ?_
        refine x_goto C 4 dX3_emptyPiles_28 (by decide) ?_
        exact x_eqL (ih (t + 1) (by omega)) rfl (by rw [esum, ← nI_add, ← nI_1]; rfl) rfl rfl rfl rfl
  refine x_iconst C 0 (by decide) dX3_emptyPiles_0 ?_
  refine x_istore_n C dX3_emptyPiles_1 (by decide) rfl rfl ?_
  refine x_iconst C 0 (by decide) dX3_emptyPiles_2 ?_
  refine x_istore_n C dX3_emptyPiles_3 (by decide) rfl rfl ?_
  exact loop 5 0 (by omega)

def nvI (R : Fr) (zs : Nat → Nat) (I : Fi) : Fi := epS R zs (up3 I 0 0 2 (I 0 0 2 + 1)) 5
theorem KG.up {n : Nat} {I : Fi} {R : Fr} (h : KG n I R) {c i k : Nat} {v : Int32} (h1 : ¬ (c = 0 ∧ k = 1)) (h2 : ¬ (c = 4 ∧ k = 0)) : KG n (up3 I c i k v) R := ⟨by rw [up3_n _ _ _ _ _ (fun z => h1 ⟨z.1.symm, z.2.2.symm⟩)]; exact h.1, h.2.1, h.2.2.1, h.2.2.2.1, fun q hq => by rw [up3_n _ _ _ _ _ (fun z => h2 ⟨z.1.symm, z.2.2.symm⟩)]; exact h.2.2.2.2 q hq⟩
theorem PL.up {n : Nat} {I : Fi} {R : Fr} {zs : Nat → Nat} (h : PL n I R zs) {c i k : Nat} {v : Int32} (h1 : ¬ c = 9) : PL n (up3 I c i k v) R zs := fun q hq => ⟨by rw [up3_c _ _ _ _ _ (Ne.symm h1)]; exact (h q hq).1, (h q hq).2⟩
set_option maxRecDepth 100000 in
set_option maxHeartbeats 4000000 in
theorem c_X3_goToNextVersion (l : Launch) (D : va_G) (dA : Nat → ClassId) (base n : Nat) (ad : Fa) (I : Fi) (J : Fj) (R : Fr) (hT : ST n R) (hG : KG n I R) (zs : Nat → Nat) (hP : PL n I R zs) : CT l D dA base yX3_goToNextVersion cX3_goToNextVersion 1 none 4 0 0 [.ref (ad 0 0)] ad (Nn n) I J R (po none ad (Nn n) (nvI R zs I) J R) := by
  refine CT.of 0 (L0 := [some (.ref (ad 0 0))]) (by decide +kernel) rfl (Nat.le_of_ble_eq_true rfl) ?_
  intro p e s m args below meth c C
  refine x_aload_n C dX3_goToNextVersion_0 rfl ?_
  refine x_dup C rfl dX3_goToNextVersion_1 ?_
  refine x_getI C f_X3_42 rfl (by first | assumption | exact Nat.one_pos) dX3_goToNextVersion_2 ?_
  refine x_iconst C 1 (by decide) dX3_goToNextVersion_5 ?_
  refine x_iadd C dX3_goToNextVersion_6 ?_
  refine x_putI C g_X3_42 rfl (by first | assumption | exact Nat.one_pos) dX3_goToNextVersion_7 ?_
  refine x_aload_n C dX3_goToNextVersion_10 rfl ?_
  refine x_cV1 C yo_X3_emptyPiles m_X3_114 rfl rfl (by first | assumption | exact Nat.one_pos) (c_X3_emptyPiles l D dA base n ad (up3 I 0 0 2 (I 0 0 2 + 1)) J R hT (hG.up (by decide) (by decide)) zs (hP.up (by decide))) dX3_goToNextVersion_11 rfl rfl (Nat.le_of_ble_eq_true rfl) ⟨by decide, by decide⟩ ⟨by decide, by decide⟩ ?_
  refine x_pop C rfl dX3_goToNextVersion_14 ?_
  exact x_vret C (po_i _ _ _ _ _ _) dX3_goToNextVersion_15

/-- a work of the key i, topmost of the pile p0 of z + 1, ends with x and v, after k asked -/
def ewI (I : Fi) (J : Fj) (i p0 z k : Nat) (x : Int32) (v : Int64) : Fi := ttI (up3 (kapS (up3 (up3 (up3 (up3 I 4 i 9 (if ¬ I 4 i 10 = 0 ∧ I 4 i 7 = x ∧ J 4 i 8 = v then I 4 i 9 else I 0 0 2)) 4 i 7 x) 4 i 10 1) 4 i 14 (I 4 i 14 + 1)) i k k) 4 i 11 (I 0 0 2)) p0 i z
theorem kapS_n (I : Fi) (i k t : Nat) {c b d : Nat} (h1 : ¬ (c = 6 ∧ b = i)) (h2 : ¬ (c = 4 ∧ b = i ∧ d = 13)) : kapS I i k t c b d = I c b d := by
  simp only [kapS]
  rw [if_neg (fun z => h1 ⟨z.1, z.2.1⟩), up3_n _ _ _ _ _ h2]
set_option maxRecDepth 100000 in
set_option maxHeartbeats 4000000 in
theorem c_X3_endWork_v (l : Launch) (D : va_G) (dA : Nat → ClassId) (base n : Nat) (ad : Fa) (I : Fi) (J : Fj) (R : Fr) (hT : ST n R) (i p0 z k f : Nat) (hi : i < n) (hp : p0 < 5) (hs : I 9 p0 1 = nI (z + 1)) (hz : z < 40) (ht : R 10 p0 z = some i) (hk : I 7 i 1 = nI k) (hk8 : k ≤ 8) (hf : I 4 i 1 = nI f) (hf6 : f < 6) : CT l D dA base yX3_endWork cX3_endWork 6 none 3 0 0 [.ref (ad 0 0), .ref (ad 4 i), .ref (ad 9 p0), .int 1] ad (Nn n) I J R (po none ad (Nn n) (ewI I J i p0 z k 1 (rsl f (J 7 i 3))) (up3 J 4 i 8 (rsl f (J 7 i 3))) R) := by
  refine CT.of 2 (L0 := [some (.ref (ad 0 0)), some (.ref (ad 4 i)), some (.ref (ad 9 p0)), some (.int 1), none, none]) (by decide +kernel) rfl (Nat.le_of_ble_eq_true rfl) ?_
  intro p e s m args below meth c C
  refine x_iload_n C dX3_endWork_0 rfl ?_
  refine x_iconst C 1 (by decide) dX3_endWork_1 ?_
  refine x_icmp_ne C 16 dX3_endWork_2 (by decide) (fun h2 => ?_) (fun h2 => ?_)
  · skip
    exact absurd rfl h2
  · skip
    refine x_aload_n C dX3_endWork_5 rfl ?_
    refine x_getF C hT f_X3_167 rfl rfl (by first | assumption | exact Nat.one_pos) dX3_endWork_6 ?_
    refine x_aload_n C dX3_endWork_9 rfl ?_
    refine x_cV1 C yo_X2_result m_X3_215 rfl rfl (by first | assumption | exact Nat.one_pos) (c_X2_result l D dA base n ad I J R hT i f hi hf hf6) dX3_endWork_10 rfl rfl (Nat.le_of_ble_eq_true rfl) ⟨by decide, by decide⟩ ⟨by decide, by decide⟩ ?_
    refine x_goto C 17 dX3_endWork_13 (by decide) ?_
    refine x_lstore C dX3_endWork_17 (by decide) rfl rfl ?_
    refine x_aload_n C dX3_endWork_19 rfl ?_
    refine x_getI C f_X3_139 rfl (by first | assumption | exact Nat.one_pos) dX3_endWork_20 ?_
    try simp only [up3_r, Nat.reduceEqDiff, and_false, false_and, and_self, and_true, true_and, reduceIte]
    refine x_if_eq C 44 dX3_endWork_23 (by decide) (fun h23 => ?_) (fun h23 => ?_)
    · skip
      refine x_aload_n C dX3_endWork_44 rfl ?_
      refine x_aload_n C dX3_endWork_45 rfl ?_
      refine x_getI C f_X3_42 rfl (by first | assumption | exact Nat.one_pos) dX3_endWork_46 ?_
      try simp only [up3_r, Nat.reduceEqDiff, and_false, false_and, and_self, and_true, true_and, reduceIte]
      refine x_putI C g_X3_45 rfl (by first | assumption | exact Nat.one_pos) dX3_endWork_49 ?_
      refine x_aload_n C dX3_endWork_52 rfl ?_
      refine x_iload_n C dX3_endWork_53 rfl ?_
      refine x_putI C g_X3_35 rfl (by first | assumption | exact Nat.one_pos) dX3_endWork_54 ?_
      refine x_aload_n C dX3_endWork_57 rfl ?_
      refine x_lload C dX3_endWork_58 rfl ?_
      refine x_putJ C g_X3_38 rfl (by first | assumption | exact Nat.one_pos) dX3_endWork_60 ?_
      refine x_aload_n C dX3_endWork_63 rfl ?_
      refine x_iconst C 1 (by decide) dX3_endWork_64 ?_
      refine x_putZ C g_X3_139 rfl (by first | assumption | exact Nat.one_pos) (by first | exact Or.inl rfl | exact Or.inr rfl | assumption) dX3_endWork_65 ?_
      refine x_aload_n C dX3_endWork_68 rfl ?_
      refine x_dup C rfl dX3_endWork_69 ?_
      refine x_getI C f_X3_133 rfl (by first | assumption | exact Nat.one_pos) dX3_endWork_70 ?_
      try simp only [up3_r, Nat.reduceEqDiff, and_false, false_and, and_self, and_true, true_and, reduceIte]
      refine x_iconst C 1 (by decide) dX3_endWork_73 ?_
      refine x_iadd C dX3_endWork_74 ?_
      refine x_putI C g_X3_133 rfl (by first | assumption | exact Nat.one_pos) dX3_endWork_75 ?_
      refine x_aload_n C dX3_endWork_78 rfl ?_
      refine x_cV0 C yo_X0_keepAskedPlaces m_X3_219 rfl rfl (by first | assumption | exact Nat.one_pos) (c_X0_keepAskedPlaces l D dA base n ad (up3 (up3 (up3 (up3 I 4 i 9 (I 0 0 2)) 4 i 7 1) 4 i 10 1) 4 i 14 (I 4 i 14 + 1)) (up3 J 4 i 8 (rsl f (J 7 i 3))) R hT i k hi (by simp [up3, hk]) hk8) dX3_endWork_79 rfl rfl (Nat.le_of_ble_eq_true rfl) ⟨by decide, by decide⟩ ⟨by decide, by decide⟩ ?_
      refine x_aload_n C dX3_endWork_82 rfl ?_
      refine x_aload_n C dX3_endWork_83 rfl ?_
      refine x_aload_n C dX3_endWork_84 rfl ?_
      refine x_cV0 C yo_X3_makeSure m_X3_187 rfl rfl (by first | assumption | exact Nat.one_pos) (c_X3_makeSure l D dA base n ad (kapS (up3 (up3 (up3 (up3 I 4 i 9 (I 0 0 2)) 4 i 7 1) 4 i 10 1) 4 i 14 (I 4 i 14 + 1)) i k k) (up3 J 4 i 8 (rsl f (J 7 i 3))) R hT p0 z i hp (by rw [kapS_n _ _ _ _ (by omega) (by omega)]; simp [up3, hs]) hz ht hi) dX3_endWork_85 rfl rfl (Nat.le_of_ble_eq_true rfl) ⟨by decide, by decide⟩ ⟨by decide, by decide⟩ ?_
      exact x_vret C (⟨rfl, rfl, rfl, by (unfold ewI; rw [if_neg (fun z => z.1 h23), kapS_n _ _ _ _ (by omega) (by omega)]; simp [up3]), rfl, rfl⟩) dX3_endWork_88
    · skip
      refine x_aload_n C dX3_endWork_26 rfl ?_
      refine x_getI C f_X3_35 rfl (by first | assumption | exact Nat.one_pos) dX3_endWork_27 ?_
      try simp only [up3_r, Nat.reduceEqDiff, and_false, false_and, and_self, and_true, true_and, reduceIte]
      refine x_iload_n C dX3_endWork_30 rfl ?_
      refine x_icmp_ne C 44 dX3_endWork_31 (by decide) (fun h31 => ?_) (fun h31 => ?_)
      · skip
        refine x_aload_n C dX3_endWork_44 rfl ?_
        refine x_aload_n C dX3_endWork_45 rfl ?_
        refine x_getI C f_X3_42 rfl (by first | assumption | exact Nat.one_pos) dX3_endWork_46 ?_
        try simp only [up3_r, Nat.reduceEqDiff, and_false, false_and, and_self, and_true, true_and, reduceIte]
        refine x_putI C g_X3_45 rfl (by first | assumption | exact Nat.one_pos) dX3_endWork_49 ?_
        refine x_aload_n C dX3_endWork_52 rfl ?_
        refine x_iload_n C dX3_endWork_53 rfl ?_
        refine x_putI C g_X3_35 rfl (by first | assumption | exact Nat.one_pos) dX3_endWork_54 ?_
        refine x_aload_n C dX3_endWork_57 rfl ?_
        refine x_lload C dX3_endWork_58 rfl ?_
        refine x_putJ C g_X3_38 rfl (by first | assumption | exact Nat.one_pos) dX3_endWork_60 ?_
        refine x_aload_n C dX3_endWork_63 rfl ?_
        refine x_iconst C 1 (by decide) dX3_endWork_64 ?_
        refine x_putZ C g_X3_139 rfl (by first | assumption | exact Nat.one_pos) (by first | exact Or.inl rfl | exact Or.inr rfl | assumption) dX3_endWork_65 ?_
        refine x_aload_n C dX3_endWork_68 rfl ?_
        refine x_dup C rfl dX3_endWork_69 ?_
        refine x_getI C f_X3_133 rfl (by first | assumption | exact Nat.one_pos) dX3_endWork_70 ?_
        try simp only [up3_r, Nat.reduceEqDiff, and_false, false_and, and_self, and_true, true_and, reduceIte]
        refine x_iconst C 1 (by decide) dX3_endWork_73 ?_
        refine x_iadd C dX3_endWork_74 ?_
        refine x_putI C g_X3_133 rfl (by first | assumption | exact Nat.one_pos) dX3_endWork_75 ?_
        refine x_aload_n C dX3_endWork_78 rfl ?_
        refine x_cV0 C yo_X0_keepAskedPlaces m_X3_219 rfl rfl (by first | assumption | exact Nat.one_pos) (c_X0_keepAskedPlaces l D dA base n ad (up3 (up3 (up3 (up3 I 4 i 9 (I 0 0 2)) 4 i 7 1) 4 i 10 1) 4 i 14 (I 4 i 14 + 1)) (up3 J 4 i 8 (rsl f (J 7 i 3))) R hT i k hi (by simp [up3, hk]) hk8) dX3_endWork_79 rfl rfl (Nat.le_of_ble_eq_true rfl) ⟨by decide, by decide⟩ ⟨by decide, by decide⟩ ?_
        refine x_aload_n C dX3_endWork_82 rfl ?_
        refine x_aload_n C dX3_endWork_83 rfl ?_
        refine x_aload_n C dX3_endWork_84 rfl ?_
        refine x_cV0 C yo_X3_makeSure m_X3_187 rfl rfl (by first | assumption | exact Nat.one_pos) (c_X3_makeSure l D dA base n ad (kapS (up3 (up3 (up3 (up3 I 4 i 9 (I 0 0 2)) 4 i 7 1) 4 i 10 1) 4 i 14 (I 4 i 14 + 1)) i k k) (up3 J 4 i 8 (rsl f (J 7 i 3))) R hT p0 z i hp (by rw [kapS_n _ _ _ _ (by omega) (by omega)]; simp [up3, hs]) hz ht hi) dX3_endWork_85 rfl rfl (Nat.le_of_ble_eq_true rfl) ⟨by decide, by decide⟩ ⟨by decide, by decide⟩ ?_
        exact x_vret C (⟨rfl, rfl, rfl, by (unfold ewI; rw [if_neg (fun z => h31 z.2.1), kapS_n _ _ _ _ (by omega) (by omega)]; simp [up3]), rfl, rfl⟩) dX3_endWork_88
      · skip
        refine x_aload_n C dX3_endWork_34 rfl ?_
        refine x_getJ C f_X3_38 rfl (by first | assumption | exact Nat.one_pos) dX3_endWork_35 ?_
        try simp only [up3_r, Nat.reduceEqDiff, and_false, false_and, and_self, and_true, true_and, reduceIte]
        refine x_lload C dX3_endWork_38 rfl ?_
        refine x_lcmp C dX3_endWork_40 ?_
        refine x_if_eq C 52 dX3_endWork_41 (by decide) (fun h41 => ?_) (fun h41 => ?_)
        · skip
          rw [lg_cmp_eq] at h41
          refine x_aload_n C dX3_endWork_52 rfl ?_
          refine x_iload_n C dX3_endWork_53 rfl ?_
          refine x_putI C g_X3_35 rfl (by first | assumption | exact Nat.one_pos) dX3_endWork_54 ?_
          refine x_aload_n C dX3_endWork_57 rfl ?_
          refine x_lload C dX3_endWork_58 rfl ?_
          refine x_putJ C g_X3_38 rfl (by first | assumption | exact Nat.one_pos) dX3_endWork_60 ?_
          refine x_aload_n C dX3_endWork_63 rfl ?_
          refine x_iconst C 1 (by decide) dX3_endWork_64 ?_
          refine x_putZ C g_X3_139 rfl (by first | assumption | exact Nat.one_pos) (by first | exact Or.inl rfl | exact Or.inr rfl | assumption) dX3_endWork_65 ?_
          refine x_aload_n C dX3_endWork_68 rfl ?_
          refine x_dup C rfl dX3_endWork_69 ?_
          refine x_getI C f_X3_133 rfl (by first | assumption | exact Nat.one_pos) dX3_endWork_70 ?_
          try simp only [up3_r, Nat.reduceEqDiff, and_false, false_and, and_self, and_true, true_and, reduceIte]
          refine x_iconst C 1 (by decide) dX3_endWork_73 ?_
          refine x_iadd C dX3_endWork_74 ?_
          refine x_putI C g_X3_133 rfl (by first | assumption | exact Nat.one_pos) dX3_endWork_75 ?_
          refine x_aload_n C dX3_endWork_78 rfl ?_
          refine x_cV0 C yo_X0_keepAskedPlaces m_X3_219 rfl rfl (by first | assumption | exact Nat.one_pos) (c_X0_keepAskedPlaces l D dA base n ad (up3 (up3 (up3 I 4 i 7 1) 4 i 10 1) 4 i 14 (I 4 i 14 + 1)) (up3 J 4 i 8 (rsl f (J 7 i 3))) R hT i k hi (by simp [up3, hk]) hk8) dX3_endWork_79 rfl rfl (Nat.le_of_ble_eq_true rfl) ⟨by decide, by decide⟩ ⟨by decide, by decide⟩ ?_
          refine x_aload_n C dX3_endWork_82 rfl ?_
          refine x_aload_n C dX3_endWork_83 rfl ?_
          refine x_aload_n C dX3_endWork_84 rfl ?_
          refine x_cV0 C yo_X3_makeSure m_X3_187 rfl rfl (by first | assumption | exact Nat.one_pos) (c_X3_makeSure l D dA base n ad (kapS (up3 (up3 (up3 I 4 i 7 1) 4 i 10 1) 4 i 14 (I 4 i 14 + 1)) i k k) (up3 J 4 i 8 (rsl f (J 7 i 3))) R hT p0 z i hp (by rw [kapS_n _ _ _ _ (by omega) (by omega)]; simp [up3, hs]) hz ht hi) dX3_endWork_85 rfl rfl (Nat.le_of_ble_eq_true rfl) ⟨by decide, by decide⟩ ⟨by decide, by decide⟩ ?_
          exact x_vret C (⟨rfl, rfl, rfl, by (unfold ewI; rw [if_pos ⟨h23, h31, h41⟩, up3_e, kapS_n _ _ _ _ (by omega) (by omega)]; simp [up3]), rfl, rfl⟩) dX3_endWork_88
        · skip
          rw [lg_cmp_eq] at h41
          refine x_aload_n C dX3_endWork_44 rfl ?_
          refine x_aload_n C dX3_endWork_45 rfl ?_
          refine x_getI C f_X3_42 rfl (by first | assumption | exact Nat.one_pos) dX3_endWork_46 ?_
          try simp only [up3_r, Nat.reduceEqDiff, and_false, false_and, and_self, and_true, true_and, reduceIte]
          refine x_putI C g_X3_45 rfl (by first | assumption | exact Nat.one_pos) dX3_endWork_49 ?_
          refine x_aload_n C dX3_endWork_52 rfl ?_
          refine x_iload_n C dX3_endWork_53 rfl ?_
          refine x_putI C g_X3_35 rfl (by first | assumption | exact Nat.one_pos) dX3_endWork_54 ?_
          refine x_aload_n C dX3_endWork_57 rfl ?_
          refine x_lload C dX3_endWork_58 rfl ?_
          refine x_putJ C g_X3_38 rfl (by first | assumption | exact Nat.one_pos) dX3_endWork_60 ?_
          refine x_aload_n C dX3_endWork_63 rfl ?_
          refine x_iconst C 1 (by decide) dX3_endWork_64 ?_
          refine x_putZ C g_X3_139 rfl (by first | assumption | exact Nat.one_pos) (by first | exact Or.inl rfl | exact Or.inr rfl | assumption) dX3_endWork_65 ?_
          refine x_aload_n C dX3_endWork_68 rfl ?_
          refine x_dup C rfl dX3_endWork_69 ?_
          refine x_getI C f_X3_133 rfl (by first | assumption | exact Nat.one_pos) dX3_endWork_70 ?_
          try simp only [up3_r, Nat.reduceEqDiff, and_false, false_and, and_self, and_true, true_and, reduceIte]
          refine x_iconst C 1 (by decide) dX3_endWork_73 ?_
          refine x_iadd C dX3_endWork_74 ?_
          refine x_putI C g_X3_133 rfl (by first | assumption | exact Nat.one_pos) dX3_endWork_75 ?_
          refine x_aload_n C dX3_endWork_78 rfl ?_
          refine x_cV0 C yo_X0_keepAskedPlaces m_X3_219 rfl rfl (by first | assumption | exact Nat.one_pos) (c_X0_keepAskedPlaces l D dA base n ad (up3 (up3 (up3 (up3 I 4 i 9 (I 0 0 2)) 4 i 7 1) 4 i 10 1) 4 i 14 (I 4 i 14 + 1)) (up3 J 4 i 8 (rsl f (J 7 i 3))) R hT i k hi (by simp [up3, hk]) hk8) dX3_endWork_79 rfl rfl (Nat.le_of_ble_eq_true rfl) ⟨by decide, by decide⟩ ⟨by decide, by decide⟩ ?_
          refine x_aload_n C dX3_endWork_82 rfl ?_
          refine x_aload_n C dX3_endWork_83 rfl ?_
          refine x_aload_n C dX3_endWork_84 rfl ?_
          refine x_cV0 C yo_X3_makeSure m_X3_187 rfl rfl (by first | assumption | exact Nat.one_pos) (c_X3_makeSure l D dA base n ad (kapS (up3 (up3 (up3 (up3 I 4 i 9 (I 0 0 2)) 4 i 7 1) 4 i 10 1) 4 i 14 (I 4 i 14 + 1)) i k k) (up3 J 4 i 8 (rsl f (J 7 i 3))) R hT p0 z i hp (by rw [kapS_n _ _ _ _ (by omega) (by omega)]; simp [up3, hs]) hz ht hi) dX3_endWork_85 rfl rfl (Nat.le_of_ble_eq_true rfl) ⟨by decide, by decide⟩ ⟨by decide, by decide⟩ ?_
          exact x_vret C (⟨rfl, rfl, rfl, by (unfold ewI; rw [if_neg (fun z => h41 z.2.2), kapS_n _ _ _ _ (by omega) (by omega)]; simp [up3]), rfl, rfl⟩) dX3_endWork_88

set_option maxRecDepth 100000 in
set_option maxHeartbeats 4000000 in
theorem c_X3_endWork_f (l : Launch) (D : va_G) (dA : Nat → ClassId) (base n : Nat) (ad : Fa) (I : Fi) (J : Fj) (R : Fr) (hT : ST n R) (i p0 z k f : Nat) (hi : i < n) (hp : p0 < 5) (hs : I 9 p0 1 = nI (z + 1)) (hz : z < 40) (ht : R 10 p0 z = some i) (hk : I 7 i 1 = nI k) (hk8 : k ≤ 8) (hf : I 4 i 1 = nI f) (hf6 : f < 6) (x : Int32) (hx : ¬ x = 1) : CT l D dA base yX3_endWork cX3_endWork 6 none 3 0 0 [.ref (ad 0 0), .ref (ad 4 i), .ref (ad 9 p0), .int x] ad (Nn n) I J R (po none ad (Nn n) (ewI I J i p0 z k x (0)) (up3 J 4 i 8 (0)) R) := by
  refine CT.of 2 (L0 := [some (.ref (ad 0 0)), some (.ref (ad 4 i)), some (.ref (ad 9 p0)), some (.int x), none, none]) (by decide +kernel) rfl (Nat.le_of_ble_eq_true rfl) ?_
  intro p e s m args below meth c C
  refine x_iload_n C dX3_endWork_0 rfl ?_
  refine x_iconst C 1 (by decide) dX3_endWork_1 ?_
  refine x_icmp_ne C 16 dX3_endWork_2 (by decide) (fun h2 => ?_) (fun h2 => ?_)
  · skip
    refine x_lconst C 0 (by decide) dX3_endWork_16 ?_
    refine x_lstore C dX3_endWork_17 (by decide) rfl rfl ?_
    refine x_aload_n C dX3_endWork_19 rfl ?_
    refine x_getI C f_X3_139 rfl (by first | assumption | exact Nat.one_pos) dX3_endWork_20 ?_
    try simp only [up3_r, Nat.reduceEqDiff, and_false, false_and, and_self, and_true, true_and, reduceIte]
    refine x_if_eq C 44 dX3_endWork_23 (by decide) (fun h23 => ?_) (fun h23 => ?_)
    · skip
      refine x_aload_n C dX3_endWork_44 rfl ?_
      refine x_aload_n C dX3_endWork_45 rfl ?_
      refine x_getI C f_X3_42 rfl (by first | assumption | exact Nat.one_pos) dX3_endWork_46 ?_
      try simp only [up3_r, Nat.reduceEqDiff, and_false, false_and, and_self, and_true, true_and, reduceIte]
      refine x_putI C g_X3_45 rfl (by first | assumption | exact Nat.one_pos) dX3_endWork_49 ?_
      refine x_aload_n C dX3_endWork_52 rfl ?_
      refine x_iload_n C dX3_endWork_53 rfl ?_
      refine x_putI C g_X3_35 rfl (by first | assumption | exact Nat.one_pos) dX3_endWork_54 ?_
      refine x_aload_n C dX3_endWork_57 rfl ?_
      refine x_lload C dX3_endWork_58 rfl ?_
      refine x_putJ C g_X3_38 rfl (by first | assumption | exact Nat.one_pos) dX3_endWork_60 ?_
      refine x_aload_n C dX3_endWork_63 rfl ?_
      refine x_iconst C 1 (by decide) dX3_endWork_64 ?_
      refine x_putZ C g_X3_139 rfl (by first | assumption | exact Nat.one_pos) (by first | exact Or.inl rfl | exact Or.inr rfl | assumption) dX3_endWork_65 ?_
      refine x_aload_n C dX3_endWork_68 rfl ?_
      refine x_dup C rfl dX3_endWork_69 ?_
      refine x_getI C f_X3_133 rfl (by first | assumption | exact Nat.one_pos) dX3_endWork_70 ?_
      try simp only [up3_r, Nat.reduceEqDiff, and_false, false_and, and_self, and_true, true_and, reduceIte]
      refine x_iconst C 1 (by decide) dX3_endWork_73 ?_
      refine x_iadd C dX3_endWork_74 ?_
      refine x_putI C g_X3_133 rfl (by first | assumption | exact Nat.one_pos) dX3_endWork_75 ?_
      refine x_aload_n C dX3_endWork_78 rfl ?_
      refine x_cV0 C yo_X0_keepAskedPlaces m_X3_219 rfl rfl (by first | assumption | exact Nat.one_pos) (c_X0_keepAskedPlaces l D dA base n ad (up3 (up3 (up3 (up3 I 4 i 9 (I 0 0 2)) 4 i 7 x) 4 i 10 1) 4 i 14 (I 4 i 14 + 1)) (up3 J 4 i 8 (0)) R hT i k hi (by simp [up3, hk]) hk8) dX3_endWork_79 rfl rfl (Nat.le_of_ble_eq_true rfl) ⟨by decide, by decide⟩ ⟨by decide, by decide⟩ ?_
      refine x_aload_n C dX3_endWork_82 rfl ?_
      refine x_aload_n C dX3_endWork_83 rfl ?_
      refine x_aload_n C dX3_endWork_84 rfl ?_
      refine x_cV0 C yo_X3_makeSure m_X3_187 rfl rfl (by first | assumption | exact Nat.one_pos) (c_X3_makeSure l D dA base n ad (kapS (up3 (up3 (up3 (up3 I 4 i 9 (I 0 0 2)) 4 i 7 x) 4 i 10 1) 4 i 14 (I 4 i 14 + 1)) i k k) (up3 J 4 i 8 (0)) R hT p0 z i hp (by rw [kapS_n _ _ _ _ (by omega) (by omega)]; simp [up3, hs]) hz ht hi) dX3_endWork_85 rfl rfl (Nat.le_of_ble_eq_true rfl) ⟨by decide, by decide⟩ ⟨by decide, by decide⟩ ?_
      exact x_vret C (⟨rfl, rfl, rfl, by (unfold ewI; rw [if_neg (fun z => z.1 h23), kapS_n _ _ _ _ (by omega) (by omega)]; simp [up3]), rfl, rfl⟩) dX3_endWork_88
    · skip
      refine x_aload_n C dX3_endWork_26 rfl ?_
      refine x_getI C f_X3_35 rfl (by first | assumption | exact Nat.one_pos) dX3_endWork_27 ?_
      try simp only [up3_r, Nat.reduceEqDiff, and_false, false_and, and_self, and_true, true_and, reduceIte]
      refine x_iload_n C dX3_endWork_30 rfl ?_
      refine x_icmp_ne C 44 dX3_endWork_31 (by decide) (fun h31 => ?_) (fun h31 => ?_)
      · skip
        refine x_aload_n C dX3_endWork_44 rfl ?_
        refine x_aload_n C dX3_endWork_45 rfl ?_
        refine x_getI C f_X3_42 rfl (by first | assumption | exact Nat.one_pos) dX3_endWork_46 ?_
        try simp only [up3_r, Nat.reduceEqDiff, and_false, false_and, and_self, and_true, true_and, reduceIte]
        refine x_putI C g_X3_45 rfl (by first | assumption | exact Nat.one_pos) dX3_endWork_49 ?_
        refine x_aload_n C dX3_endWork_52 rfl ?_
        refine x_iload_n C dX3_endWork_53 rfl ?_
        refine x_putI C g_X3_35 rfl (by first | assumption | exact Nat.one_pos) dX3_endWork_54 ?_
        refine x_aload_n C dX3_endWork_57 rfl ?_
        refine x_lload C dX3_endWork_58 rfl ?_
        refine x_putJ C g_X3_38 rfl (by first | assumption | exact Nat.one_pos) dX3_endWork_60 ?_
        refine x_aload_n C dX3_endWork_63 rfl ?_
        refine x_iconst C 1 (by decide) dX3_endWork_64 ?_
        refine x_putZ C g_X3_139 rfl (by first | assumption | exact Nat.one_pos) (by first | exact Or.inl rfl | exact Or.inr rfl | assumption) dX3_endWork_65 ?_
        refine x_aload_n C dX3_endWork_68 rfl ?_
        refine x_dup C rfl dX3_endWork_69 ?_
        refine x_getI C f_X3_133 rfl (by first | assumption | exact Nat.one_pos) dX3_endWork_70 ?_
        try simp only [up3_r, Nat.reduceEqDiff, and_false, false_and, and_self, and_true, true_and, reduceIte]
        refine x_iconst C 1 (by decide) dX3_endWork_73 ?_
        refine x_iadd C dX3_endWork_74 ?_
        refine x_putI C g_X3_133 rfl (by first | assumption | exact Nat.one_pos) dX3_endWork_75 ?_
        refine x_aload_n C dX3_endWork_78 rfl ?_
        refine x_cV0 C yo_X0_keepAskedPlaces m_X3_219 rfl rfl (by first | assumption | exact Nat.one_pos) (c_X0_keepAskedPlaces l D dA base n ad (up3 (up3 (up3 (up3 I 4 i 9 (I 0 0 2)) 4 i 7 x) 4 i 10 1) 4 i 14 (I 4 i 14 + 1)) (up3 J 4 i 8 (0)) R hT i k hi (by simp [up3, hk]) hk8) dX3_endWork_79 rfl rfl (Nat.le_of_ble_eq_true rfl) ⟨by decide, by decide⟩ ⟨by decide, by decide⟩ ?_
        refine x_aload_n C dX3_endWork_82 rfl ?_
        refine x_aload_n C dX3_endWork_83 rfl ?_
        refine x_aload_n C dX3_endWork_84 rfl ?_
        refine x_cV0 C yo_X3_makeSure m_X3_187 rfl rfl (by first | assumption | exact Nat.one_pos) (c_X3_makeSure l D dA base n ad (kapS (up3 (up3 (up3 (up3 I 4 i 9 (I 0 0 2)) 4 i 7 x) 4 i 10 1) 4 i 14 (I 4 i 14 + 1)) i k k) (up3 J 4 i 8 (0)) R hT p0 z i hp (by rw [kapS_n _ _ _ _ (by omega) (by omega)]; simp [up3, hs]) hz ht hi) dX3_endWork_85 rfl rfl (Nat.le_of_ble_eq_true rfl) ⟨by decide, by decide⟩ ⟨by decide, by decide⟩ ?_
        exact x_vret C (⟨rfl, rfl, rfl, by (unfold ewI; rw [if_neg (fun z => h31 z.2.1), kapS_n _ _ _ _ (by omega) (by omega)]; simp [up3]), rfl, rfl⟩) dX3_endWork_88
      · skip
        refine x_aload_n C dX3_endWork_34 rfl ?_
        refine x_getJ C f_X3_38 rfl (by first | assumption | exact Nat.one_pos) dX3_endWork_35 ?_
        try simp only [up3_r, Nat.reduceEqDiff, and_false, false_and, and_self, and_true, true_and, reduceIte]
        refine x_lload C dX3_endWork_38 rfl ?_
        refine x_lcmp C dX3_endWork_40 ?_
        refine x_if_eq C 52 dX3_endWork_41 (by decide) (fun h41 => ?_) (fun h41 => ?_)
        · skip
          rw [lg_cmp_eq] at h41
          refine x_aload_n C dX3_endWork_52 rfl ?_
          refine x_iload_n C dX3_endWork_53 rfl ?_
          refine x_putI C g_X3_35 rfl (by first | assumption | exact Nat.one_pos) dX3_endWork_54 ?_
          refine x_aload_n C dX3_endWork_57 rfl ?_
          refine x_lload C dX3_endWork_58 rfl ?_
          refine x_putJ C g_X3_38 rfl (by first | assumption | exact Nat.one_pos) dX3_endWork_60 ?_
          refine x_aload_n C dX3_endWork_63 rfl ?_
          refine x_iconst C 1 (by decide) dX3_endWork_64 ?_
          refine x_putZ C g_X3_139 rfl (by first | assumption | exact Nat.one_pos) (by first | exact Or.inl rfl | exact Or.inr rfl | assumption) dX3_endWork_65 ?_
          refine x_aload_n C dX3_endWork_68 rfl ?_
          refine x_dup C rfl dX3_endWork_69 ?_
          refine x_getI C f_X3_133 rfl (by first | assumption | exact Nat.one_pos) dX3_endWork_70 ?_
          try simp only [up3_r, Nat.reduceEqDiff, and_false, false_and, and_self, and_true, true_and, reduceIte]
          refine x_iconst C 1 (by decide) dX3_endWork_73 ?_
          refine x_iadd C dX3_endWork_74 ?_
          refine x_putI C g_X3_133 rfl (by first | assumption | exact Nat.one_pos) dX3_endWork_75 ?_
          refine x_aload_n C dX3_endWork_78 rfl ?_
          refine x_cV0 C yo_X0_keepAskedPlaces m_X3_219 rfl rfl (by first | assumption | exact Nat.one_pos) (c_X0_keepAskedPlaces l D dA base n ad (up3 (up3 (up3 I 4 i 7 x) 4 i 10 1) 4 i 14 (I 4 i 14 + 1)) (up3 J 4 i 8 (0)) R hT i k hi (by simp [up3, hk]) hk8) dX3_endWork_79 rfl rfl (Nat.le_of_ble_eq_true rfl) ⟨by decide, by decide⟩ ⟨by decide, by decide⟩ ?_
          refine x_aload_n C dX3_endWork_82 rfl ?_
          refine x_aload_n C dX3_endWork_83 rfl ?_
          refine x_aload_n C dX3_endWork_84 rfl ?_
          refine x_cV0 C yo_X3_makeSure m_X3_187 rfl rfl (by first | assumption | exact Nat.one_pos) (c_X3_makeSure l D dA base n ad (kapS (up3 (up3 (up3 I 4 i 7 x) 4 i 10 1) 4 i 14 (I 4 i 14 + 1)) i k k) (up3 J 4 i 8 (0)) R hT p0 z i hp (by rw [kapS_n _ _ _ _ (by omega) (by omega)]; simp [up3, hs]) hz ht hi) dX3_endWork_85 rfl rfl (Nat.le_of_ble_eq_true rfl) ⟨by decide, by decide⟩ ⟨by decide, by decide⟩ ?_
          exact x_vret C (⟨rfl, rfl, rfl, by (unfold ewI; rw [if_pos ⟨h23, h31, h41⟩, up3_e, kapS_n _ _ _ _ (by omega) (by omega)]; simp [up3]), rfl, rfl⟩) dX3_endWork_88
        · skip
          rw [lg_cmp_eq] at h41
          refine x_aload_n C dX3_endWork_44 rfl ?_
          refine x_aload_n C dX3_endWork_45 rfl ?_
          refine x_getI C f_X3_42 rfl (by first | assumption | exact Nat.one_pos) dX3_endWork_46 ?_
          try simp only [up3_r, Nat.reduceEqDiff, and_false, false_and, and_self, and_true, true_and, reduceIte]
          refine x_putI C g_X3_45 rfl (by first | assumption | exact Nat.one_pos) dX3_endWork_49 ?_
          refine x_aload_n C dX3_endWork_52 rfl ?_
          refine x_iload_n C dX3_endWork_53 rfl ?_
          refine x_putI C g_X3_35 rfl (by first | assumption | exact Nat.one_pos) dX3_endWork_54 ?_
          refine x_aload_n C dX3_endWork_57 rfl ?_
          refine x_lload C dX3_endWork_58 rfl ?_
          refine x_putJ C g_X3_38 rfl (by first | assumption | exact Nat.one_pos) dX3_endWork_60 ?_
          refine x_aload_n C dX3_endWork_63 rfl ?_
          refine x_iconst C 1 (by decide) dX3_endWork_64 ?_
          refine x_putZ C g_X3_139 rfl (by first | assumption | exact Nat.one_pos) (by first | exact Or.inl rfl | exact Or.inr rfl | assumption) dX3_endWork_65 ?_
          refine x_aload_n C dX3_endWork_68 rfl ?_
          refine x_dup C rfl dX3_endWork_69 ?_
          refine x_getI C f_X3_133 rfl (by first | assumption | exact Nat.one_pos) dX3_endWork_70 ?_
          try simp only [up3_r, Nat.reduceEqDiff, and_false, false_and, and_self, and_true, true_and, reduceIte]
          refine x_iconst C 1 (by decide) dX3_endWork_73 ?_
          refine x_iadd C dX3_endWork_74 ?_
          refine x_putI C g_X3_133 rfl (by first | assumption | exact Nat.one_pos) dX3_endWork_75 ?_
          refine x_aload_n C dX3_endWork_78 rfl ?_
          refine x_cV0 C yo_X0_keepAskedPlaces m_X3_219 rfl rfl (by first | assumption | exact Nat.one_pos) (c_X0_keepAskedPlaces l D dA base n ad (up3 (up3 (up3 (up3 I 4 i 9 (I 0 0 2)) 4 i 7 x) 4 i 10 1) 4 i 14 (I 4 i 14 + 1)) (up3 J 4 i 8 (0)) R hT i k hi (by simp [up3, hk]) hk8) dX3_endWork_79 rfl rfl (Nat.le_of_ble_eq_true rfl) ⟨by decide, by decide⟩ ⟨by decide, by decide⟩ ?_
          refine x_aload_n C dX3_endWork_82 rfl ?_
          refine x_aload_n C dX3_endWork_83 rfl ?_
          refine x_aload_n C dX3_endWork_84 rfl ?_
          refine x_cV0 C yo_X3_makeSure m_X3_187 rfl rfl (by first | assumption | exact Nat.one_pos) (c_X3_makeSure l D dA base n ad (kapS (up3 (up3 (up3 (up3 I 4 i 9 (I 0 0 2)) 4 i 7 x) 4 i 10 1) 4 i 14 (I 4 i 14 + 1)) i k k) (up3 J 4 i 8 (0)) R hT p0 z i hp (by rw [kapS_n _ _ _ _ (by omega) (by omega)]; simp [up3, hs]) hz ht hi) dX3_endWork_85 rfl rfl (Nat.le_of_ble_eq_true rfl) ⟨by decide, by decide⟩ ⟨by decide, by decide⟩ ?_
          exact x_vret C (⟨rfl, rfl, rfl, by (unfold ewI; rw [if_neg (fun z => h41 z.2.2), kapS_n _ _ _ _ (by omega) (by omega)]; simp [up3]), rfl, rfl⟩) dX3_endWork_88
  · skip
    exact absurd h2 hx

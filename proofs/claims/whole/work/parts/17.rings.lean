/-! rings, reach, run -/
theorem x_acmpK {p : Program} {l : Launch} {e : Env} {Rm : Room} {s : State} {m : MethodId} {args : Array Value} {below : List Frame} {meth : Method} {c : Code} {Q : State → Prop} {cc : ByteArray} {own : String} {ret : Option FieldType} {D : va_G} {dA : Nat → ClassId} {base nL : Nat} {ad : Fa} {N : Nat → Nat} {I : Fi} {J : Fj} {R : Fr} {nc ns pc : Nat} {L : List (Option Value)} {st : List Value} (C : CX p s m args meth c cc nL own ret D dA base) {kc x y : Nat} {off : Int} (tgt : Nat) (hx : x < N kc) (hy : y < N kc) (d : decode cc pc = .ok (.if_acmp .eq off, 3)) (ht : (pc : Int) + off = (tgt : Int)) (kt : x = y → GX p l e Rm s m args below meth c Q D dA base nL ad N I J R nc ns tgt L st) (kf : ¬ x = y → GX p l e Rm s m args below meth c Q D dA base nL ad N I J R nc ns (pc + 3) L st) : GX p l e Rm s m args below meth c Q D dA base nL ad N I J R nc ns pc L (.ref (ad kc y) :: .ref (ad kc x) :: st) := fun H locs ls hH hS hl =>
  x_acmp_eq C tgt d ht (fun q => kt (hH.2.1 kc x kc y hx hy q).2) (fun q => kf (fun z => q (by rw [z]))) H locs ls hH hS hl
/-- rows: how many places, and what they hold -/
def RW (n : Nat) (I : Fi) (R : Fr) (rs : Nat → Nat) : Prop := ∀ a, a < n → I 4 a 3 = nI (rs a) ∧ rs a ≤ 8 ∧ ∀ k, k < rs a → ∃ y, R 5 a k = some y ∧ y < n
theorem RW.up {n : Nat} {I : Fi} {R : Fr} {rs : Nat → Nat} (h : RW n I R rs) {c i k : Nat} {v : Int32} (hc : ¬ (c = 4 ∧ k = 3)) : RW n (up3 I c i k v) R rs := fun a ha => ⟨by rw [up3_n _ _ _ _ _ (fun z => hc ⟨z.1.symm, z.2.2.symm⟩)]; exact (h a ha).1, (h a ha).2⟩
def nrg (nx : Nat → Option Nat) (i : Nat) : Nat → Nat → Nat → Fi → Fi
  | 0, _, _, I => I
  | f + 1, a, z, I => if a = i then I else match nx a with
    | none => up3 (up3 I 3 0 z (nI a)) 0 0 5 (nI (z + 1))
    | some b => nrg nx i f b (z + 1) (up3 (up3 I 3 0 z (nI a)) 0 0 5 (nI (z + 1)))
theorem ftr_lt {R : Fr} {J : Fj} {i j r n : Nat} (hrow : ∀ k, k < r → ∃ y, R 5 i k = some y ∧ y < n) : ∀ (f : Nat), f ≤ r → ∀ y, ftr R J i j r f = some y → y < n
  | 0, _, y, h => by simp [ftr] at h
  | f + 1, hf, y, h => by
    obtain ⟨y2, h1, h2⟩ := hrow (r - (f + 1)) (by omega)
    simp only [ftr, h1] at h
    split at h
    · cases h; exact h2
    · exact ftr_lt hrow f (by omega) y h
set_option maxRecDepth 100000 in
set_option maxHeartbeats 4000000 in
theorem c_X3_noteRing (l : Launch) (D : va_G) (dA : Nat → ClassId) (base n : Nat) (ad : Fa) (I : Fi) (J : Fj) (R : Fr) (hT : ST n R) (hG : KG n I R) (i j : Nat) (rs : Nat → Nat) (hi : i < n) (hj : j < n) (hW : RW n I R rs) : CT l D dA base yX3_noteRing cX3_noteRing 4 none 2 0 0 [.ref (ad 0 0), .ref (ad 4 i), .ref (ad 4 j)] ad (Nn n) I J R (po none ad (Nn n) (nrg (fun a => ftr R J a i (rs a) (rs a)) i 39 j 1 (up3 (up3 I 3 0 0 (nI i)) 0 0 5 1)) J R) := by
  refine CT.of 1 (L0 := [some (.ref (ad 0 0)), some (.ref (ad 4 i)), some (.ref (ad 4 j)), none]) (by decide +kernel) rfl (Nat.le_of_ble_eq_true rfl) ?_
  intro p e s m args below meth c C
  have loop : ∀ (f a z : Nat) (I1 : Fi), a < n → z + f = 40 → 0 < z → I1 0 0 5 = nI z → RW n I1 R rs → (∀ k, k < n → I1 4 k 0 = nI k) → nrg (fun a => ftr R J a i (rs a) (rs a)) i 39 j 1 (up3 (up3 I 3 0 0 (nI i)) 0 0 5 1) = nrg (fun a => ftr R J a i (rs a) (rs a)) i f a z I1 → GX p l e (rmX 2 0 0) s m args below meth c (MQ below (CQ D dA base (po none ad (Nn n) (nrg (fun a => ftr R J a i (rs a) (rs a)) i 39 j 1 (up3 (up3 I 3 0 0 (nI i)) 0 0 5 1)) J R)) args s 0 0 (fun q => base ≤ q)) D dA base 4 ad (Nn n) I1 J R 0 0 17 [some (.ref (ad 0 0)), some (.ref (ad 4 i)), some (.ref (ad 4 j)), some (.ref (ad 4 a))] [] := by
    intro f
    induction f with
    | zero =>
      intro a z I1 ha hz hz0 h5 hW1 hnum he
      refine x_aload_n C dX3_noteRing_17 rfl ?_
      refine x_ifnull C dX3_noteRing_18 ?_
      refine x_aload_n C dX3_noteRing_21 rfl ?_
      refine x_aload_n C dX3_noteRing_22 rfl ?_
      refine x_acmpK C 67 ha hi dX3_noteRing_23 (by decide) (fun h23 => ?_) (fun h23 => ?_)
      · skip
        exact x_vret C (⟨rfl, rfl, rfl, he.symm, rfl, rfl⟩) dX3_noteRing_67
      · skip
        refine x_aload_n C dX3_noteRing_26 rfl ?_
        refine x_getI C f_X3_82 rfl (by first | assumption | exact Nat.one_pos) dX3_noteRing_27 ?_
        refine x_bipush C 40 (by decide) dX3_noteRing_30 ?_
        refine x_icmp_ge C 67 dX3_noteRing_32 (by decide) (fun h32 => ?_) (fun h32 => ?_)
        · skip
          exact x_vret C (⟨rfl, rfl, rfl, he.symm, rfl, rfl⟩) dX3_noteRing_67
        · skip
          rw [h5] at h32
          exact absurd (nI_le (a := 40) (show 40 ≤ z by omega) (by omega)) h32
    | succ f ih =>
      intro a z I1 ha hz hz0 h5 hW1 hnum he
      refine x_aload_n C dX3_noteRing_17 rfl ?_
      refine x_ifnull C dX3_noteRing_18 ?_
      refine x_aload_n C dX3_noteRing_21 rfl ?_
      refine x_aload_n C dX3_noteRing_22 rfl ?_
      refine x_acmpK C 67 ha hi dX3_noteRing_23 (by decide) (fun h23 => ?_) (fun h23 => ?_)
      · skip
        exact x_vret C (⟨rfl, rfl, rfl, by rw [he]; simp only [nrg, if_pos h23], rfl, rfl⟩) dX3_noteRing_67
      · skip
        obtain ⟨hr1, hr2, hr3⟩ := hW1 a ha
        have hz5 : up3 (up3 I1 3 0 z (nI a)) 0 0 5 (nI z + 1) = (up3 (up3 I1 3 0 z (nI a)) 0 0 5 (nI (z + 1))) := by rw [nI_1]
        refine x_aload_n C dX3_noteRing_26 rfl ?_
        refine x_getI C f_X3_82 rfl (by first | assumption | exact Nat.one_pos) dX3_noteRing_27 ?_
        try simp only [up3_r, Nat.reduceEqDiff, and_false, false_and, and_self, and_true, true_and, reduceIte]
        refine x_bipush C 40 (by decide) dX3_noteRing_30 ?_
        refine x_icmp_ge C 67 dX3_noteRing_32 (by decide) (fun h32 => ?_) (fun h32 => ?_)
        · skip
          rw [h5] at h32
          exact absurd h32 (nI_ge (b := 40) (show z < 40 by omega) (by decide))
        · skip
          refine x_aload_n C dX3_noteRing_35 rfl ?_
          refine x_getF C hT f_X3_22 rfl rfl (by first | assumption | exact Nat.one_pos) dX3_noteRing_36 ?_
          refine x_aload_n C dX3_noteRing_39 rfl ?_
          refine x_getI C f_X3_82 rfl (by first | assumption | exact Nat.one_pos) dX3_noteRing_40 ?_
          try simp only [up3_r, Nat.reduceEqDiff, and_false, false_and, and_self, and_true, true_and, reduceIte]
          refine x_aload_n C dX3_noteRing_43 rfl ?_
          refine x_getI C f_X3_146 rfl (by first | assumption | exact Nat.one_pos) dX3_noteRing_44 ?_
          try simp only [up3_r, Nat.reduceEqDiff, and_false, false_and, and_self, and_true, true_and, reduceIte]
          rw [hnum a ha]
          refine x_iastN C z h5 rfl rfl (by first | assumption | exact Nat.one_pos) (show z < 40 by omega) (by decide) dX3_noteRing_47 ?_
          refine x_aload_n C dX3_noteRing_48 rfl ?_
          refine x_dup C rfl dX3_noteRing_49 ?_
          refine x_getI C f_X3_82 rfl (by first | assumption | exact Nat.one_pos) dX3_noteRing_50 ?_
          try simp only [up3_r, Nat.reduceEqDiff, and_false, false_and, and_self, and_true, true_and, reduceIte]
          refine x_iconst C 1 (by decide) dX3_noteRing_53 ?_
          refine x_iadd C dX3_noteRing_54 ?_
          rw [h5]
          refine x_putI C g_X3_82 rfl (by first | assumption | exact Nat.one_pos) dX3_noteRing_55 ?_
          rw [hz5]
          refine x_aload_n C dX3_noteRing_58 rfl ?_
          refine x_aload_n C dX3_noteRing_59 rfl ?_
          skip
          cases hf : ftr R J a i (rs a) (rs a) with
          | none =>
            refine x_cV1 C yo_X0_firstThatReaches m_X3_155 rfl rfl (by assumption) ((c_X0_firstThatReaches l D dA base n ad (up3 (up3 I1 3 0 z (nI a)) 0 0 5 (nI (z + 1))) J R hT a i (rs a) ha hi (by simp [up3, hr1]) hr2 hr3 (fun k hk => by simp [up3, hnum k hk])).mono (post' := po (some .null) ad (Nn n) (up3 (up3 I1 3 0 z (nI a)) 0 0 5 (nI (z + 1))) J R) (fun r a n i j k h => by obtain ⟨h1, h2⟩ := h; exact ⟨by rw [h1, hf]; rfl, h2⟩)) dX3_noteRing_60 rfl rfl (Nat.le_of_ble_eq_true rfl) ⟨by decide, by decide⟩ ⟨by decide, by decide⟩ ?_
            refine x_astore_nN C dX3_noteRing_63 (by decide) rfl rfl ?_
            refine x_goto C 17 dX3_noteRing_64 (by decide) ?_
            refine x_aload_nN C dX3_noteRing_17 rfl ?_
            refine x_ifnullN C 67 dX3_noteRing_18 (by decide) ?_
            exact x_vret C (⟨rfl, rfl, rfl, by rw [he]; simp only [nrg, if_neg h23, hf], rfl, rfl⟩) dX3_noteRing_67
          | some b =>
            have hbn : b < n := ftr_lt hr3 (rs a) (Nat.le_refl _) b hf
            refine x_cV1 C yo_X0_firstThatReaches m_X3_155 rfl rfl (by assumption) ((c_X0_firstThatReaches l D dA base n ad (up3 (up3 I1 3 0 z (nI a)) 0 0 5 (nI (z + 1))) J R hT a i (rs a) ha hi (by simp [up3, hr1]) hr2 hr3 (fun k hk => by simp [up3, hnum k hk])).mono (post' := po (some (.ref (ad 4 b))) ad (Nn n) (up3 (up3 I1 3 0 z (nI a)) 0 0 5 (nI (z + 1))) J R) (fun r a n i j k h => by obtain ⟨h1, h2⟩ := h; exact ⟨by rw [h1, hf]; rfl, h2⟩)) dX3_noteRing_60 rfl rfl (Nat.le_of_ble_eq_true rfl) ⟨by decide, by decide⟩ ⟨by decide, by decide⟩ ?_
            refine x_astore_n C dX3_noteRing_63 (by decide) rfl rfl ?_
            refine x_goto C 17 dX3_noteRing_64 (by decide) ?_
            exact ih b (z + 1) (up3 (up3 I1 3 0 z (nI a)) 0 0 5 (nI (z + 1))) hbn (by omega) (by omega) (by rw [up3_s]) ((hW1.up (by omega)).up (by omega)) (fun k hk => by simp [up3, hnum k hk]) (by rw [he]; simp only [nrg, if_neg h23, hf])
  refine x_aload_n C dX3_noteRing_0 rfl ?_
  refine x_getF C hT f_X3_22 rfl rfl (by first | assumption | exact Nat.one_pos) dX3_noteRing_1 ?_
  refine x_iconst C 0 (by decide) dX3_noteRing_4 ?_
  refine x_aload_n C dX3_noteRing_5 rfl ?_
  refine x_getI C f_X3_146 rfl (by first | assumption | exact Nat.one_pos) dX3_noteRing_6 ?_
  rw [hG.2.2.2.2 i hi]
  refine x_iastN C 0 rfl rfl rfl (by first | assumption | exact Nat.one_pos) (by decide) (by decide) dX3_noteRing_9 ?_
  refine x_aload_n C dX3_noteRing_10 rfl ?_
  refine x_iconst C 1 (by decide) dX3_noteRing_11 ?_
  refine x_putI C g_X3_82 rfl (by first | assumption | exact Nat.one_pos) dX3_noteRing_12 ?_
  refine x_aload_n C dX3_noteRing_15 rfl ?_
  refine x_astore_n C dX3_noteRing_16 (by decide) rfl rfl ?_
  exact loop 39 j 1 _ hj rfl (by decide) (by rw [up3_s]; rfl) ((hW.up (by decide)).up (by decide)) (fun k hk => by simp [up3, hG.2.2.2.2 k hk]) rfl

def spr (i j : Nat) (J : Fj) : Nat → Fj
  | 0 => J
  | t + 1 => if bit (spr i j J t 4 t 4) i = true then up3 (spr i j J t) 4 t 4 (spr i j J t 4 t 4 ||| spr i j J t 4 j 4) else spr i j J t
set_option maxRecDepth 100000 in
set_option maxHeartbeats 4000000 in
theorem c_X3_spreadReach (l : Launch) (D : va_G) (dA : Nat → ClassId) (base n : Nat) (ad : Fa) (I : Fi) (J : Fj) (R : Fr) (hT : ST n R) (hG : KG n I R) (i j : Nat) (hi : i < n) (hj : j < n) : CT l D dA base yX3_spreadReach cX3_spreadReach 5 none 1 0 0 [.ref (ad 0 0), .ref (ad 4 i), .ref (ad 4 j)] ad (Nn n) I J R (po none ad (Nn n) I (spr i j J n) R) := by
  refine CT.of 2 (L0 := [some (.ref (ad 0 0)), some (.ref (ad 4 i)), some (.ref (ad 4 j)), none, none]) (by decide +kernel) rfl (Nat.le_of_ble_eq_true rfl) ?_
  intro p e s m args below meth c C
  have hn40 := hG.2.1
  have loop : ∀ (f t : Nat), t + f = n → GX p l e (rmX 1 0 0) s m args below meth c (MQ below (CQ D dA base (po none ad (Nn n) I (spr i j J n) R)) args s 0 0 (fun q => base ≤ q)) D dA base 5 ad (Nn n) I (spr i j J t) R 0 0 2 [some (.ref (ad 0 0)), some (.ref (ad 4 i)), some (.ref (ad 4 j)), some (.int (nI t)), none] [] := by
    intro f
    induction f with
    | zero =>
      intro t ht
      have ht2 : t = n := by omega
      refine x_iload_n C dX3_spreadReach_2 rfl ?_
      refine x_aload_n C dX3_spreadReach_3 rfl ?_
      refine x_getI C f_X3_26 rfl (by first | assumption | exact Nat.one_pos) dX3_spreadReach_4 ?_
      refine x_icmp_ge C 51 dX3_spreadReach_7 (by decide) (fun h7 => ?_) (fun h7 => ?_)
      · skip
        exact x_vret C (⟨rfl, rfl, rfl, rfl, by rw [ht2], rfl⟩) dX3_spreadReach_51
      · skip
        rw [hG.1, ht2] at h7
        exact absurd (Int32.le_refl _) h7
    | succ f ih =>
      intro t ht
      have htn : t < n := by omega
      refine x_iload_n C dX3_spreadReach_2 rfl ?_
      refine x_aload_n C dX3_spreadReach_3 rfl ?_
      refine x_getI C f_X3_26 rfl (by first | assumption | exact Nat.one_pos) dX3_spreadReach_4 ?_
      refine x_icmp_ge C 51 dX3_spreadReach_7 (by decide) (fun h7 => ?_) (fun h7 => ?_)
      · skip
        rw [hG.1] at h7
        exact absurd h7 (nI_ge htn (by omega))
      · skip
        refine x_aload_n C dX3_spreadReach_10 rfl ?_
        refine x_iload_n C dX3_spreadReach_11 rfl ?_
        refine x_cV1 C yo_X3_keyAt m_X3_56 rfl rfl (by first | assumption | exact Nat.one_pos) (c_X3_keyAt_in l D dA base n ad I (spr i j J t) R hT hG t htn) dX3_spreadReach_12 rfl rfl (Nat.le_of_ble_eq_true rfl) ⟨by decide, by decide⟩ ⟨by decide, by decide⟩ ?_
        refine x_astore C dX3_spreadReach_15 (by decide) rfl rfl ?_
        refine x_aload C dX3_spreadReach_17 rfl ?_
        refine x_ifnull C dX3_spreadReach_19 ?_
        refine x_aload C dX3_spreadReach_22 rfl ?_
        refine x_aload_n C dX3_spreadReach_24 rfl ?_
        refine x_cV1 C yo_X0_reaches m_X3_62 rfl rfl (by first | assumption | exact Nat.one_pos) (c_X0_reaches l D dA base n ad I (spr i j J t) R hT t i htn hi (hG.2.2.2.2 i hi)) dX3_spreadReach_25 rfl rfl (Nat.le_of_ble_eq_true rfl) ⟨by decide, by decide⟩ ⟨by decide, by decide⟩ ?_
        refine x_if_eq C 45 dX3_spreadReach_28 (by decide) (fun h28 => ?_) (fun h28 => ?_)
        · skip
          have q : ¬ bit (spr i j J t 4 t 4) i = true := fun z => by rw [if_pos z] at h28; exact absurd h28 (by decide)
          refine x_iinc C _ dX3_spreadReach_45 rfl rfl (by decide) rfl rfl ?_
          refine x_goto C 2 dX3_spreadReach_48 (by decide) ?_
          refine x_drop 4 rfl ?_
          exact x_eqL (ih (t + 1) (by omega)) rfl (by rw [← nI_1]; rfl) rfl rfl (by rw [spr, if_neg q]) rfl
        · skip
          have q : bit (spr i j J t 4 t 4) i = true := Decidable.of_not_not (fun z => h28 (by rw [if_neg z]))
          refine x_aload C dX3_spreadReach_31 rfl ?_
          refine x_dup C rfl dX3_spreadReach_33 ?_
          refine x_getJ C f_X3_159 rfl (by first | assumption | exact Nat.one_pos) dX3_spreadReach_34 ?_
          refine x_aload_n C dX3_spreadReach_37 rfl ?_
          refine x_getJ C f_X3_159 rfl (by first | assumption | exact Nat.one_pos) dX3_spreadReach_38 ?_
          refine x_lor C dX3_spreadReach_41 ?_
          refine x_putJ C g_X3_159 rfl (by first | assumption | exact Nat.one_pos) dX3_spreadReach_42 ?_
          refine x_iinc C _ dX3_spreadReach_45 rfl rfl (by decide) rfl rfl ?_
          refine x_goto C 2 dX3_spreadReach_48 (by decide) ?_
          refine x_drop 4 rfl ?_
          exact x_eqL (ih (t + 1) (by omega)) rfl (by rw [← nI_1]; rfl) rfl rfl (by rw [spr, if_pos q]) rfl
  refine x_iconst C 0 (by decide) dX3_spreadReach_0 ?_
  refine x_istore_n C dX3_spreadReach_1 (by decide) rfl rfl ?_
  exact loop n 0 (by omega)

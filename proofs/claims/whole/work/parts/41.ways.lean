/-! ways, rings, bits -/
theorem Rch.trans {n : Nat} {rs : Nat → Nat} {rw : Nat → Nat → Nat} {a b c : Nat} (h1 : Rch n rs rw a b) (h2 : Rch n rs rw b c) : Rch n rs rw a c := fun P h hs => h1 P (h2 P h hs) hs
theorem Rch.stp {n : Nat} {rs : Nat → Nat} {rw : Nat → Nat → Nat} {x i b : Nat} (hx : x < n) (hi : i < rs x) (h : Rch n rs rw (rw x i) b) : Rch n rs rw x b := fun P hb hs => hs x i hx hi (h P hb hs)
theorem Rch.rf (n : Nat) (rs : Nat → Nat) (rw : Nat → Nat → Nat) (a : Nat) : Rch n rs rw a a := fun P h _ => h
theorem Rch.inv {n : Nat} {rs : Nat → Nat} {rw : Nat → Nat → Nat} {a b : Nat} (h : Rch n rs rw a b) : a = b ∨ (a < n ∧ ∃ i, i < rs a ∧ Rch n rs rw (rw a i) b) := by
  refine h (fun x => x = b ∨ (x < n ∧ ∃ i, i < rs x ∧ Rch n rs rw (rw x i) b)) (Or.inl rfl) (fun x i hx hi hP => Or.inr ⟨hx, i, hi, ?_⟩)
  rcases hP with h | ⟨h1, i2, h2, h3⟩
  · rw [h]; exact Rch.rf _ _ _ _
  · exact Rch.stp h1 h2 h3
theorem Rch.lt {n : Nat} {rs : Nat → Nat} {rw : Nat → Nat → Nat} {a b : Nat} (hrw : ∀ x i, x < n → i < rs x → rw x i < n) (h : Rch n rs rw a b) (ha : a < n) : b < n := by
  rcases Nat.lt_or_ge b n with hb | hb
  · exact hb
  · exact absurd ha (h (fun x => ¬ x < n) (by omega) (fun x i hx hi hP => absurd (hrw x i hx hi) hP))
/-- another edge k, j where j doesn't come to k -/
theorem Rch.more {n : Nat} {rs : Nat → Nat} {rw : Nat → Nat → Nat} {k j : Nat} (hk : k < n) (hc : ¬ Rch n rs rw j k) (a b : Nat) : Rch n (u1 rs k (rs k + 1)) (u2 rw k (rs k) j) a b ↔ Rch n rs rw a b ∨ (Rch n rs rw a k ∧ Rch n rs rw j b) := by
  have mono : ∀ a b, Rch n rs rw a b → Rch n (u1 rs k (rs k + 1)) (u2 rw k (rs k) j) a b := fun a b h P hb hs => h P hb (fun x i hx hi hP => by
    refine hs x i hx ?_ ?_
    · by_cases e : x = k
      · subst e; rw [u1_s]; omega
      · rw [u1_n _ _ e]; exact hi
    · rw [u2_n _ _ (fun z => by obtain ⟨rfl, rfl⟩ := z; omega)]; exact hP)
  constructor
  · intro h
    refine h (fun x => Rch n rs rw x b ∨ (Rch n rs rw x k ∧ Rch n rs rw j b)) (Or.inl (Rch.rf _ _ _ _)) (fun x i hx hi hP => ?_)
    by_cases e : x = k ∧ i = rs k
    · obtain ⟨rfl, rfl⟩ := e
      rw [u2_s] at hP
      refine Or.inr ⟨Rch.rf _ _ _ _, ?_⟩
      rcases hP with h | ⟨h, -⟩
      · exact h
      · exact absurd h hc
    · rw [u2_n _ _ e] at hP
      have hi' : i < rs x := by
        by_cases e2 : x = k
        · subst e2; rw [u1_s] at hi; omega
        · rw [u1_n _ _ e2] at hi; exact hi
      exact hP.imp (fun h => Rch.stp hx hi' h) (fun h => ⟨Rch.stp hx hi' h.1, h.2⟩)
  · rintro (h | ⟨h1, h2⟩)
    · exact mono a b h
    · refine (mono a k h1).trans (Rch.stp (i := rs k) hk (by rw [u1_s]; omega) ?_)
      rw [u2_s]; exact mono j b h2
/-! the way of a ring -/
def wy (nx : Nat → Option Nat) (k j : Nat) : Nat → Nat
  | 0 => j
  | t + 1 => if wy nx k j t = k then k else (nx (wy nx k j t)).getD 0
def NXT (n : Nat) (rs : Nat → Nat) (rw : Nat → Nat → Nat) (k : Nat) (nx : Nat → Option Nat) : Prop := ∀ a, a < n → Rch n rs rw a k → ¬ a = k → ∃ i, i < rs a ∧ nx a = some (rw a i) ∧ Rch n rs rw (rw a i) k ∧ ∀ i2, i2 < i → ¬ Rch n rs rw (rw a i2) k
theorem wy_in {n : Nat} {rs : Nat → Nat} {rw : Nat → Nat → Nat} {k j : Nat} {nx : Nat → Option Nat} (hrw : ∀ x i, x < n → i < rs x → rw x i < n) (hx : NXT n rs rw k nx) (hk : k < n) (hj : j < n) (hc : Rch n rs rw j k) : ∀ t, wy nx k j t < n ∧ Rch n rs rw (wy nx k j t) k
  | 0 => ⟨hj, hc⟩
  | t + 1 => by
    obtain ⟨h1, h2⟩ := wy_in hrw hx hk hj hc t
    rw [wy]
    by_cases e : wy nx k j t = k
    · rw [if_pos e]; exact ⟨hk, Rch.rf _ _ _ _⟩
    · rw [if_neg e]
      obtain ⟨i, y1, y2, y3, -⟩ := hx _ h1 h2 e
      rw [y2]; exact ⟨hrw _ _ h1 y1, y3⟩
theorem least {P : Nat → Prop} [DecidablePred P] : ∀ b, (∃ t, t ≤ b ∧ P t) → ∃ m, m ≤ b ∧ P m ∧ ∀ s, s < m → ¬ P s
  | 0, ⟨t, ht, hp⟩ => by
    have : t = 0 := by omega
    subst this
    exact ⟨0, Nat.le_refl _, hp, fun s hs => absurd hs (Nat.not_lt_zero _)⟩
  | b + 1, ⟨t, ht, hp⟩ => by
    by_cases h : ∃ t, t ≤ b ∧ P t
    · obtain ⟨m, h1, h2, h3⟩ := least b h
      exact ⟨m, by omega, h2, h3⟩
    · have e : t = b + 1 := by
        rcases Nat.lt_or_ge t (b + 1) with hl | hl
        · exact absurd ⟨t, by omega, hp⟩ h
        · omega
      subst e
      exact ⟨b + 1, Nat.le_refl _, hp, fun s hs hps => h ⟨s, by omega, hps⟩⟩
theorem way_ex {n : Nat} {rs : Nat → Nat} {rw : Nat → Nat → Nat} {k j : Nat} {nx : Nat → Option Nat} (hn : n ≤ 40) (hrw : ∀ x i, x < n → i < rs x → rw x i < n) (hac : ∀ x i, x < n → i < rs x → ¬ Rch n rs rw (rw x i) x) (hx : NXT n rs rw k nx) (hk : k < n) (hj : j < n) (hc : Rch n rs rw j k) : ∃ m, WAY n rs rw k j m (wy nx k j) := by
  have hin := wy_in hrw hx hk hj hc
  have hst : ∀ t, ¬ wy nx k j t = k → ∃ i, i < rs (wy nx k j t) ∧ rw (wy nx k j t) i = wy nx k j (t + 1) ∧ Rch n rs rw (wy nx k j (t + 1)) k ∧ ∀ i2, i2 < i → ¬ Rch n rs rw (rw (wy nx k j t) i2) k := fun t ht => by
    obtain ⟨i, y1, y2, y3, y4⟩ := hx _ (hin t).1 (hin t).2 ht
    have e : wy nx k j (t + 1) = rw (wy nx k j t) i := by rw [wy, if_neg ht, y2]; rfl
    exact ⟨i, y1, e.symm, (hin _).2, y4⟩
  have hpath : ∀ d s, (∀ u, u < s + d → ¬ wy nx k j u = k) → Rch n rs rw (wy nx k j s) (wy nx k j (s + d)) := by
    intro d
    induction d with
    | zero => intro s _; exact Rch.rf _ _ _ _
    | succ d ih =>
      intro s hu
      refine (ih s (fun u h => hu u (by omega))).trans ?_
      obtain ⟨i, y1, y2, -⟩ := hst (s + d) (hu _ (by omega))
      refine Rch.stp (hin _).1 y1 ?_
      rw [y2]; exact Rch.rf _ _ _ _
  have hex : ∃ t, t ≤ n - 1 ∧ wy nx k j t = k := by
    refine Decidable.byContradiction (fun hno => ?_)
    have hne : ∀ t, t < n → ¬ wy nx k j t = k := fun t ht e => hno ⟨t, by omega, e⟩
    have hd : ∀ s t, s < t → t < n → ¬ wy nx k j s = wy nx k j t := fun s t hs ht he => by
      obtain ⟨i, y1, y2, -⟩ := hst s (hne s (by omega))
      have h1 := hpath (t - (s + 1)) (s + 1) (fun u hu => hne u (by omega))
      rw [show s + 1 + (t - (s + 1)) = t by omega, ← he, ← y2] at h1
      exact hac _ _ (hin s).1 y1 h1
    have := pigeon n (n + 1) (fun i => if i < n then wy nx k j i else k) (fun i hi => by
      split
      · exact (hin i).1
      · exact hk) (fun a b ha hb he => by
      split at he <;> split at he
      · rcases Nat.lt_trichotomy a b with h | h | h
        · exact absurd he (hd a b h ‹_›)
        · exact h
        · exact absurd he.symm (hd b a h ‹_›)
      · exact absurd he (hne a ‹_›)
      · exact absurd he.symm (hne b ‹_›)
      · omega)
    omega
  obtain ⟨m, m1, m2, m3⟩ := least _ hex
  exact ⟨m, rfl, m2, by omega, fun t ht => ⟨m3 t ht, (hin t).1, hst t (m3 t ht)⟩⟩
theorem nrg_way {n : Nat} {rs : Nat → Nat} {rw : Nat → Nat → Nat} {k j m : Nat} {nx : Nat → Option Nat} (hm : wy nx k j m = k) (hne : ∀ t, t < m → ¬ wy nx k j t = k ∧ nx (wy nx k j t) = some (wy nx k j (t + 1))) : ∀ (f s : Nat) (X : Fi), s ≤ m → m - s ≤ f → X 0 0 5 = nI (s + 1) → ∃ Y, Y = nrg nx k f (wy nx k j s) (s + 1) X ∧ Y 0 0 5 = nI (m + 1) ∧ (∀ t, t ≤ s → Y 3 0 t = X 3 0 t) ∧ (∀ t, s ≤ t → t < m → Y 3 0 (t + 1) = nI (wy nx k j t)) ∧ ∀ c b d, ¬ c = 3 → ¬ (c = 0 ∧ d = 5) → Y c b d = X c b d := by
  intro f
  induction f with
  | zero =>
    intro s X hs hf h5
    have : s = m := by omega
    subst this
    exact ⟨_, rfl, h5, fun _ _ => rfl, fun t h1 h2 => absurd h2 (by omega), fun _ _ _ _ _ => rfl⟩
  | succ f ih =>
    intro s X hs hf h5
    refine ⟨_, rfl, ?_⟩
    rw [nrg]
    by_cases e : wy nx k j s = k
    · rw [if_pos e]
      have : s = m := by
        rcases Nat.lt_or_ge s m with h | h
        · exact absurd e (hne s h).1
        · omega
      subst this
      exact ⟨h5, fun _ _ => rfl, fun t h1 h2 => absurd h2 (by omega), fun _ _ _ _ _ => rfl⟩
    · rw [if_neg e]
      have hsm : s < m := by
        rcases Nat.lt_or_ge s m with h | h
        · exact h
        · have : s = m := by omega
          subst this; exact absurd hm e
      rw [(hne s hsm).2]
      obtain ⟨Y, y0, y1, y2, y3, y4⟩ := ih (s + 1) (up3 (up3 X 3 0 (s + 1) (nI (wy nx k j s))) 0 0 5 (nI (s + 1 + 1))) (by omega) (by omega) (up3_s _ _ _ _ _)
      dsimp only
      rw [← y0]
      refine ⟨y1, fun t ht => ?_, fun t h1 h2 => ?_, fun c b d h1 h2 => ?_⟩
      · rw [y2 t (by omega), up3_c _ _ _ _ _ (by decide), up3_k _ _ _ _ _ (by omega)]
      · by_cases e2 : t = s
        · subst e2
          rw [y2 (t + 1) (by omega), up3_c _ _ _ _ _ (by decide), up3_s]
        · exact y3 t (by omega) h2
      · rw [y4 c b d h1 h2, up3_n _ _ _ _ _ (by omega), up3_c _ _ _ _ _ h1]
theorem mrS_i (I : Fi) (way : Nat → Nat) : ∀ m t, t < m → mrS I way m 42 0 (t + 1) = nI (way t)
  | 0, t, h => absurd h (Nat.not_lt_zero _)
  | m + 1, t, h => by
    rw [mrS, up3_c _ _ _ _ _ (by decide)]
    by_cases e : t = m
    · subst e; rw [up3_s]
    · rw [up3_k _ _ _ _ _ (by omega)]; exact mrS_i I way m t (by omega)
theorem mrS_0 (I : Fi) (way : Nat → Nat) : ∀ m, mrS I way m 42 0 0 = I 42 0 0
  | 0 => rfl
  | m + 1 => by rw [mrS, up3_c _ _ _ _ _ (by decide), up3_k _ _ _ _ _ (by omega)]; exact mrS_0 I way m
/-- the class's next of a ring -/
theorem ftr_ex {R : Fr} {J : Fj} {n a k : Nat} {rs : Nat → Nat} {rw : Nat → Nat → Nat} (hR : ∀ i, i < rs a → R 5 a i = some (rw a i)) (hb : ∀ i, i < rs a → (bit (J 4 (rw a i) 4) k = true ↔ Rch n rs rw (rw a i) k)) : ∀ f, f ≤ rs a → (∃ i, rs a - f ≤ i ∧ i < rs a ∧ Rch n rs rw (rw a i) k) → ∃ i, rs a - f ≤ i ∧ i < rs a ∧ ftr R J a k (rs a) f = some (rw a i) ∧ Rch n rs rw (rw a i) k ∧ ∀ i2, rs a - f ≤ i2 → i2 < i → ¬ Rch n rs rw (rw a i2) k
  | 0, _, ⟨i, h1, h2, _⟩ => by omega
  | f + 1, hf, ⟨i, h1, h2, h3⟩ => by
    have e := hR (rs a - (f + 1)) (by omega)
    rw [ftr, e]
    dsimp only
    by_cases hq : Rch n rs rw (rw a (rs a - (f + 1))) k
    · rw [if_pos ((hb _ (by omega)).mpr hq)]
      exact ⟨rs a - (f + 1), Nat.le_refl _, by omega, rfl, hq, fun i2 y1 y2 => by omega⟩
    · rw [if_neg (fun z => hq ((hb _ (by omega)).mp z))]
      have hi : ¬ i = rs a - (f + 1) := fun z => hq (by rw [← z]; exact h3)
      obtain ⟨i0, y1, y2, y3, y4, y5⟩ := ftr_ex hR hb f (by omega) ⟨i, by omega, h2, h3⟩
      refine ⟨i0, by omega, y2, y3, y4, fun i2 z1 z2 => ?_⟩
      by_cases e2 : i2 = rs a - (f + 1)
      · rw [e2]; exact hq
      · exact y5 i2 (by omega) z2
/-! bits -/
theorem bv_or0 (x y m : BitVec 64) : (x ||| y) &&& m = 0 ↔ x &&& m = 0 ∧ y &&& m = 0 := by
  constructor
  · intro h
    constructor
    · apply BitVec.eq_of_getLsbD_eq
      intro i hi
      have := congrArg (fun v => BitVec.getLsbD v i) h
      simp at this ⊢
      intro h1
      exact (this (Or.inl h1))
    · apply BitVec.eq_of_getLsbD_eq
      intro i hi
      have := congrArg (fun v => BitVec.getLsbD v i) h
      simp at this ⊢
      intro h1
      exact (this (Or.inr h1))
  · rintro ⟨h1, h2⟩
    apply BitVec.eq_of_getLsbD_eq
    intro i hi
    have t1 := congrArg (fun v => BitVec.getLsbD v i) h1
    have t2 := congrArg (fun v => BitVec.getLsbD v i) h2
    simp at t1 t2 ⊢
    rintro (h | h)
    · exact t1 h
    · exact t2 h
theorem i64_bv (x : Int64) : x = 0 ↔ x.toBitVec = 0 := ⟨fun h => by rw [h]; rfl, fun h => Int64.toBitVec_inj.mp h⟩
theorem bit_or (x y : Int64) (j : Nat) : bit (x ||| y) j = true ↔ bit x j = true ∨ bit y j = true := by
  unfold bit
  rw [decide_eq_true_iff, decide_eq_true_iff, decide_eq_true_iff, i64_bv, i64_bv, i64_bv]
  have := bv_or0 x.toBitVec y.toBitVec (1 <<< ((nI j).toInt64 &&& 63) : Int64).toBitVec
  show ¬ ((x.toBitVec ||| y.toBitVec) &&& _ = 0) ↔ ¬ (x.toBitVec &&& _ = 0) ∨ ¬ (y.toBitVec &&& _ = 0)
  rw [this]
  exact Decidable.not_and_iff_or_not
theorem bit_new : ∀ a b : Nat, a < 40 → b < 40 → (bit (1 <<< ((nI a).toInt64 &&& 63)) b = true ↔ a = b) := by
  have h : ∀ a b : Fin 40, bit (1 <<< ((nI a.val).toInt64 &&& 63)) b.val = decide (a.val = b.val) := by decide +kernel
  intro a b ha hb
  rw [h ⟨a, ha⟩ ⟨b, hb⟩, decide_eq_true_iff]
theorem spr_o (i j : Nat) (J : Fj) {c b d : Nat} (h : ¬ (c = 4 ∧ d = 4)) : ∀ t, spr i j J t c b d = J c b d
  | 0 => rfl
  | t + 1 => by
    rw [spr]
    split
    · rw [up3_n _ _ _ _ _ (fun z => h ⟨z.1, z.2.2⟩)]; exact spr_o i j J h t
    · exact spr_o i j J h t
theorem spr_4 (i j : Nat) (J : Fj) (hb : bit (J 4 j 4) i = false) : ∀ t, (∀ b, b < t → spr i j J t 4 b 4 = if bit (J 4 b 4) i = true then J 4 b 4 ||| J 4 j 4 else J 4 b 4) ∧ (∀ b, t ≤ b → spr i j J t 4 b 4 = J 4 b 4) ∧ spr i j J t 4 j 4 = J 4 j 4
  | 0 => ⟨fun b h => absurd h (Nat.not_lt_zero _), fun _ _ => rfl, rfl⟩
  | t + 1 => by
    obtain ⟨h1, h2, h3⟩ := spr_4 i j J hb t
    have e := h2 t (Nat.le_refl _)
    rw [spr, e, h3]
    by_cases hc : bit (J 4 t 4) i = true
    · rw [if_pos hc]
      have hj : ¬ j = t := fun z => by rw [← z, hb] at hc; cases hc
      refine ⟨fun b hb2 => ?_, fun b hb2 => ?_, ?_⟩
      · by_cases e2 : b = t
        · subst e2; rw [up3_s, if_pos hc]
        · rw [up3_i _ _ _ _ _ e2]; exact h1 b (by omega)
      · rw [up3_i _ _ _ _ _ (by omega)]; exact h2 b (by omega)
      · rw [up3_i _ _ _ _ _ hj]; exact h3
    · rw [if_neg hc]
      refine ⟨fun b hb2 => ?_, fun b hb2 => h2 b (by omega), h3⟩
      by_cases e2 : b = t
      · subst e2; rw [if_neg hc]; exact e
      · exact h1 b (by omega)

/-! a key is found -/
theorem sib_key {n ver : Nat} {rs aq aq' : Nat → Nat} {rw ap ap' : Nat → Nat → Nat} {I I' : Fi} {J J' : Fj} {R : Fr} (hB : SIB n ver rs aq rw ap I J R) {i : Nat} (hi : i < n) (hI : ∀ c b d, ¬ PF c d → ¬ (c = 4 ∧ b = i) → ¬ (c = 6 ∧ b = i) → ¬ ((c = 26 ∨ c = 27 ∨ c = 28 ∨ c = 30 ∨ c = 32 ∨ c = 33 ∨ c = 36) ∧ d = i) → ¬ (c = 31 ∧ ∃ t, t < 8 ∧ d = 8 * i + t) → I' c b d = I c b d) (hI4 : ∀ d, (d = 0 ∨ d = 1 ∨ d = 3 ∨ d = 5 ∨ d = 6) → I' 4 i d = I 4 i d) (hJ : ∀ c b d, ¬ (c = 4 ∧ b = i ∧ d = 8) → ¬ c = 7 → ¬ (c = 34 ∧ d = i) → J' c b d = J c b d)
    (e7 : I' 4 i 7 = I' 26 0 i) (e10 : I' 4 i 10 = I' 36 0 i) (f10 : I' 4 i 10 = 1) (e14 : I' 4 i 14 = I' 32 0 i) (e15 : I' 4 i 15 = I' 33 0 i) (e8 : J' 4 i 8 = J' 34 0 i) (nl : ¬ I 4 i 1 = -1) (hv : ¬ I' 4 i 7 = 1 → J' 4 i 8 = 0) (h11 : I' 4 i 11 = nI ver) (h27 : I' 27 0 i = nI ver) (h9 : I' 4 i 9 = I' 28 0 i)
    (has : I' 4 i 13 = nI (aq' i) ∧ I' 30 0 i = nI (aq' i) ∧ aq' i ≤ 8 ∧ ∀ t, t < aq' i → I' 6 i t = nI (ap' i t) ∧ I' 31 0 (8 * i + t) = nI (ap' i t) ∧ ap' i t < rs i) (haq : ∀ k, ¬ k = i → aq' k = aq k ∧ ap' k = ap k) (hz : ∀ c b d, (c = 4 ∨ c = 7 ∨ c = 8) → n ≤ b → I' c b d = I c b d) (hzJ : ∀ b d, n ≤ b → J' 7 b d = J 7 b d) : SIB n ver rs aq' rw ap' I' J' R := by
  obtain ⟨h1, h2, h3, h4, h5, h6, h7, a1, a2, a3, a4, a5, a6⟩ := hB
  have q4 : ∀ q d, ¬ q = i → ¬ d = 16 → I' 4 q d = I 4 q d := fun q d hq hd => hI 4 q d (by unfold PF; omega) (by omega) (by omega) (by omega) (by omega)
  have qm : ∀ q c, ¬ q = i → (c = 23 ∨ c = 24 ∨ c = 26 ∨ c = 27 ∨ c = 28 ∨ c = 29 ∨ c = 30 ∨ c = 32 ∨ c = 33 ∨ c = 35 ∨ c = 36) → I' c 0 q = I c 0 q := fun q c hq hc => hI c 0 q (by unfold PF; omega) (by omega) (by omega) (by omega) (by omega)
  have qs : ∀ q c, (c = 23 ∨ c = 24 ∨ c = 29 ∨ c = 35) → I' c 0 q = I c 0 q := fun q c hc => hI c 0 q (by unfold PF; omega) (by omega) (by omega) (by omega) (by omega)
  have qJ : ∀ q, ¬ q = i → J' 4 q 8 = J 4 q 8 ∧ J' 34 0 q = J 34 0 q := fun q hq => ⟨hJ _ _ _ (by omega) (by omega) (by omega), hJ _ _ _ (by omega) (by omega) (by omega)⟩
  have v0 : I' 0 0 2 = I 0 0 2 := hI _ _ _ (by unfold PF; omega) (by omega) (by omega) (by omega) (by omega)
  have v11 : I' 11 0 1 = I 11 0 1 := hI _ _ _ (by unfold PF; omega) (by omega) (by omega) (by omega) (by omega)
  refine ⟨fun q hq => ?_, fun q hq => ?_, ⟨by rw [v0]; exact h3.1, by rw [v11]; exact h3.2.1, h3.2.2.1, fun q hq => ?_⟩, fun q hq => ?_, ⟨fun q hq => ?_, h5.2⟩, ⟨fun k j hk hj => ?_, h6.2⟩, ?_, a1, ?_, ?_, a4, fun c b hc hb => ?_, fun q hq => ?_⟩
  · by_cases e : q = i
    · subst e
      exact ⟨by rw [hI4 _ (by omega), qs _ _ (by omega)]; exact (h1 q hq).1, by rw [hI4 _ (by omega), qs _ _ (by omega)]; exact (h1 q hq).2.1, e7, e10, e14, e15, e8⟩
    · rw [q4 _ _ e (by omega), q4 _ _ e (by omega), q4 _ _ e (by omega), q4 _ _ e (by omega), q4 _ _ e (by omega), q4 _ _ e (by omega), qm _ _ e (by omega), qm _ _ e (by omega), qm _ _ e (by omega), qm _ _ e (by omega), qm _ _ e (by omega), qm _ _ e (by omega), (qJ q e).1, (qJ q e).2]
      exact h1 q hq
  · by_cases e : q = i
    · subst e
      refine ⟨by rw [hI4 _ (by omega)]; exact (h2 q hq).1, by rw [hI4 _ (by omega)]; exact (h2 q hq).2.1, Or.inr f10, fun z => ?_, fun _ z => hv z⟩
      rw [hI4 _ (by omega)] at z; exact absurd z nl
    · rw [q4 _ _ e (by omega), q4 _ _ e (by omega), q4 _ _ e (by omega), q4 _ _ e (by omega), (qJ q e).1]
      exact h2 q hq
  · by_cases e : q = i
    · subst e
      exact ⟨by rw [hI4 _ (by omega), qs _ _ (by omega)]; exact (h3.2.2.2 q hq).1, fun _ => ⟨by rw [h11, h27], ver, Nat.le_refl _, h11⟩, fun _ => h9⟩
    · rw [q4 _ _ e (by omega), q4 _ _ e (by omega), q4 _ _ e (by omega), q4 _ _ e (by omega), q4 _ _ e (by omega), qm _ _ e (by omega), qm _ _ e (by omega), qm _ _ e (by omega)]
      exact h3.2.2.2 q hq
  · by_cases e : q = i
    · subst e; exact has
    · rw [q4 _ _ e (by omega), qm _ _ e (by omega), (haq q e).1, (haq q e).2]
      obtain ⟨b1, b2, b3, b4⟩ := h4 q hq
      refine ⟨b1, b2, b3, fun t ht => ?_⟩
      rw [hI 6 q t (by unfold PF; omega) (by omega) (by omega) (by omega) (by omega), hI 31 0 (8 * q + t) (by unfold PF; omega) (by omega) (by omega) (by omega) (by rintro ⟨-, u, hu, h⟩; omega)]
      exact b4 t ht
  · obtain ⟨b1, b2, b3, b4⟩ := h5.1 q hq
    refine ⟨?_, by rw [qs _ _ (by omega)]; exact b2, b3, fun t ht => ?_⟩
    · by_cases e : q = i
      · subst e; rw [hI4 _ (by omega)]; exact b1
      · rw [q4 _ _ e (by omega)]; exact b1
    · rw [hI 25 0 (8 * q + t) (by unfold PF; omega) (by omega) (by omega) (by omega) (by omega)]; exact b4 t ht
  · rw [hJ _ _ _ (by omega) (by omega) (by omega)]; exact h6.1 k j hk hj
  · obtain ⟨z, z1, z2, z3, z4⟩ := h7
    refine ⟨z, z1, ?_, ?_, fun t ht => ?_⟩
    · rw [hI _ _ _ (by unfold PF; omega) (by omega) (by omega) (by omega) (by omega)]; exact z2
    · rw [hI _ _ _ (by unfold PF; omega) (by omega) (by omega) (by omega) (by omega)]; exact z3
    · rw [hI _ _ _ (by unfold PF; omega) (by omega) (by omega) (by omega) (by omega), hI _ _ _ (by unfold PF; omega) (by omega) (by omega) (by omega) (by omega)]; exact z4 t ht
  · refine ⟨?_, a2.2.1, a2.2.2.1, a2.2.2.2.1, fun k hk => ?_⟩
    · rw [hI _ _ _ (by unfold PF; omega) (by omega) (by omega) (by omega) (by omega)]; exact a2.1
    · by_cases e : k = i
      · subst e; rw [hI4 _ (by omega)]; exact a2.2.2.2.2 k hk
      · rw [q4 _ _ e (by omega)]; exact a2.2.2.2.2 k hk
  · exact ⟨by rw [hI _ _ _ (by unfold PF; omega) (by omega) (by omega) (by omega) (by omega)]; exact a3.1, a3.2⟩
  · intro q
    have := a5 c b hc hb q
    refine ⟨?_, ?_, this.2.2⟩
    · by_cases hc2 : c = 4 ∨ c = 7 ∨ c = 8
      · rw [hz c b q hc2 hb]; exact this.1
      · rw [hI _ _ _ (by unfold PF; omega) (by omega) (by omega) (by omega) (by omega)]; exact this.1
    · by_cases hc2 : c = 7
      · subst hc2; rw [hzJ b q hb]; exact this.2.1
      · rw [hJ _ _ _ (by omega) hc2 (by omega)]; exact this.2.1
  · have e : ¬ q = i := by omega
    rw [qm _ _ e (by omega), qm _ _ e (by omega), qm _ _ e (by omega), qm _ _ e (by omega), qm _ _ e (by omega), qm _ _ e (by omega), qm _ _ e (by omega), (qJ q e).2]
    exact a6 q hq
theorem ea_i (I : Fi) (k e0 : Nat) : ∀ a t, t < a → eaS I k e0 a 31 0 (8 * k + t) = I 40 0 (8 * e0 + t)
  | 0, t, h => absurd h (Nat.not_lt_zero _)
  | a + 1, t, h => by
    rw [eaS]
    by_cases e : t = a
    · subst e; rw [up3_s]
    · rw [up3_k _ _ _ _ _ (by omega)]; exact ea_i I k e0 a t (by omega)
theorem ea_n (I : Fi) (k e0 : Nat) {d : Nat} : ∀ a, (∀ t, t < a → ¬ d = 8 * k + t) → eaS I k e0 a 31 0 d = I 31 0 d
  | 0, _ => rfl
  | a + 1, h => by
    rw [eaS, up3_k _ _ _ _ _ (h a (by omega))]; exact ea_n I k e0 a (fun t ht => h t (by omega))
theorem ea_b (I : Fi) (k e0 : Nat) {c b d : Nat} (h : ¬ b = 0) : ∀ a, eaS I k e0 a c b d = I c b d
  | 0 => rfl
  | a + 1 => by rw [eaS, up3_i _ _ _ _ _ h]; exact ea_b I k e0 h a
theorem me_r (I : Fi) (J : Fj) (p z k a : Nat) (x : Int32) (v : Int64) {c b d : Nat} (h : ¬ ((c = 26 ∨ c = 27 ∨ c = 28 ∨ c = 30 ∨ c = 32 ∨ c = 36) ∧ d = k)) (h37 : ¬ (c = 37 ∧ d = p)) (h31 : ¬ (c = 31 ∧ ∃ t, t < a ∧ d = 8 * k + t)) : meI I J p z k a x v c b d = I c b d := by
  unfold meI
  rw [up3_n _ _ _ _ _ (by omega), up3_n _ _ _ _ _ (by omega)]
  have e : eaS (meA I J k a x v) k (40 * p + z) a c b d = meA I J k a x v c b d := by
    by_cases hc : c = 31
    · subst hc
      by_cases hb : b = 0
      · subst hb; exact ea_n _ _ _ a (fun t ht hd => h31 ⟨rfl, t, ht, hd⟩)
      · exact ea_b _ _ _ hb a
    · exact eaS_o _ _ _ hc a
  rw [e]
  unfold meA
  rw [up3_n _ _ _ _ _ (by omega), up3_n _ _ _ _ _ (by omega), up3_n _ _ _ _ _ (by omega), up3_n _ _ _ _ _ (by omega), up3_n _ _ _ _ _ (by omega)]
theorem ew_r (I : Fi) (J : Fj) (i p z k : Nat) (x : Int32) (v : Int64) {c b d : Nat} (h4 : ¬ (c = 4 ∧ b = i ∧ (d = 7 ∨ d = 9 ∨ d = 10 ∨ d = 11 ∨ d = 13 ∨ d = 14 ∨ d = 16))) (h6 : ¬ (c = 6 ∧ b = i ∧ d < k)) (h9 : ¬ (c = 9 ∧ b = p ∧ d = 1)) : ewI I J i p z k x v c b d = I c b d := by
  unfold ewI ttI kapS
  rw [up3_n _ _ _ _ _ (by omega), up3_n _ _ _ _ _ (by omega), up3_n _ _ _ _ _ (by omega), if_neg h6, up3_n _ _ _ _ _ (by omega), up3_n _ _ _ _ _ (by omega), up3_n _ _ _ _ _ (by omega), up3_n _ _ _ _ _ (by omega), up3_n _ _ _ _ _ (by omega)]
theorem same_iff {n ver : Nat} {rs aq zs : Nat → Nat} {rw ap pk : Nat → Nat → Nat} {I : Fi} {J : Fj} {R : Fr} (hB : SIB n ver rs aq rw ap I J R) (hP : PIL n rs aq rw zs pk I J R) {i : Nat} (hi : i < n) (nl : ¬ I 4 i 1 = -1) {x : Int32} {v : Int64} (hv : ¬ x = 1 → v = 0) : (¬ I 4 i 10 = 0 ∧ I 4 i 7 = x ∧ J 4 i 8 = v) ↔ (¬ I 36 0 i = 0 ∧ I 26 0 i = x ∧ (¬ x = 1 ∨ J 34 0 i = v)) := by
  obtain ⟨-, -, e7, e10, -, -, e8⟩ := hB.1 i hi
  have ht := (hB.2.1 i hi).2.2.2.2 nl
  rw [← e7, ← e10, ← e8]
  constructor
  · exact fun h => ⟨h.1, h.2.1, Or.inr h.2.2⟩
  · rintro ⟨h1, h2, h3⟩
    refine ⟨h1, h2, ?_⟩
    rcases h3 with h3 | h3
    · rw [hv h3]; exact ht (by rw [h2]; exact h3)
    · exact h3
theorem end_sim {n ver : Nat} {rs aq zs : Nat → Nat} {rw ap pk : Nat → Nat → Nat} {I : Fi} {J : Fj} {R : Fr} (hB : SIB n ver rs aq rw ap I J R) (hP : PIL n rs aq rw zs pk I J R) {p z : Nat} (hp : p < 5) (hz : zs p = z + 1) {Ic Im : Fi} (hIc : ∀ c b d, ¬ ((c = 7 ∨ c = 8) ∧ b = pk p z) → Ic c b d = I c b d) (hIm : ∀ c b d, ¬ (c = 39 ∧ d = 40 * p + z) → ¬ (c = 40 ∧ ∃ t, t < 8 ∧ d = 8 * (40 * p + z) + t) → Im c b d = I c b d) {a : Nat} {tp : Nat → Nat} (ha : a ≤ rs (pk p z)) (htp : ∀ t, t < a → Ic 8 (pk p z) t = nI (tp t) ∧ Im 40 0 (8 * (40 * p + z) + t) = nI (tp t) ∧ tp t < rs (pk p z)) (x : Int32) (v : Int64) (hv : ¬ x = 1 → v = 0) : ∃ I' J', I' = mix (ewI Ic J (pk p z) p z a x v) (meI Im J p z (pk p z) a x v) ∧ J' = mix (up3 J 4 (pk p z) 8 v) (up3 J 34 0 (pk p z) v) ∧ SIB n ver rs (u1 aq (pk p z) a) rw (u1 ap (pk p z) tp) I' J' R ∧ PIL n rs (u1 aq (pk p z) a) rw (u1 zs p z) pk I' J' R ∧ sure I' (pk p z) = true ∧ (∀ k, ¬ k = pk p z → ∀ d, I' 4 k d = I 4 k d ∧ I' 7 k d = I 7 k d) ∧ I' 0 0 2 = I 0 0 2 := by
  refine ⟨_, _, rfl, rfl, ?_⟩
  have htop := hP.2.1 p z hp (by omega)
  have h40 := (hP.1 p hp).2.2
  obtain ⟨hi, hsu, -, -, -, f, -, -, hf, hf6, -⟩ := htop
  have nl : ¬ I 4 (pk p z) 1 = -1 := by rw [hf]; exact nI_nm (by omega)
  have hc4 : ∀ b d, Ic 4 b d = I 4 b d := fun b d => hIc 4 b d (by omega)
  have hc0 : Ic 0 0 2 = I 0 0 2 := hIc 0 0 2 (by omega)
  have hm : ∀ c b d, ¬ c = 39 → ¬ c = 40 → Im c b d = I c b d := fun c b d h1 h2 => hIm c b d (by omega) (by omega)
  obtain ⟨k1, k2, k3, k4, k5, k6, k7, a1, a2, a3, a4, a5, a6⟩ := id hB
  obtain ⟨e1, e5, e7, e10, e14, e15, e8⟩ := k1 _ hi
  have hr8 := (k5.1 _ hi).2.2.1
  have ec : ∀ c b d, c < 11 → ¬ (c = 4 ∧ b = pk p z ∧ (d = 7 ∨ d = 9 ∨ d = 10 ∨ d = 11 ∨ d = 13 ∨ d = 14 ∨ d = 16)) → ¬ (c = 6 ∧ b = pk p z) → ¬ (c = 9 ∧ b = p ∧ d = 1) → ¬ ((c = 7 ∨ c = 8) ∧ b = pk p z) → mix (ewI Ic J (pk p z) p z a x v) (meI Im J p z (pk p z) a x v) c b d = I c b d := fun c b d hc h4 h6 h9 h7 => by
    rw [mix_a _ _ hc, ew_r _ _ _ _ _ _ _ _ h4 (by omega) h9, hIc _ _ _ h7]
  have em : ∀ c b d, ¬ c < 11 → ¬ ((c = 26 ∨ c = 27 ∨ c = 28 ∨ c = 30 ∨ c = 32 ∨ c = 36) ∧ d = pk p z) → ¬ (c = 37 ∧ d = p) → ¬ (c = 31 ∧ ∃ t, t < 8 ∧ d = 8 * pk p z + t) → ¬ (c = 39 ∧ d = 40 * p + z) → ¬ (c = 40 ∧ ∃ t, t < 8 ∧ d = 8 * (40 * p + z) + t) → mix (ewI Ic J (pk p z) p z a x v) (meI Im J p z (pk p z) a x v) c b d = I c b d := fun c b d hc h1 h2 h3 h4 h5 => by
    rw [mix_b _ _ hc, me_r _ _ _ _ _ _ _ _ h1 h2 (fun ⟨y1, t, y2, y3⟩ => h3 ⟨y1, t, by omega, y3⟩), hIm _ _ _ h4 h5]
  have m28 : ∀ c, (c = 26 ∨ c = 27 ∨ c = 28 ∨ c = 30 ∨ c = 32 ∨ c = 36) → Im c 0 (pk p z) = I c 0 (pk p z) := fun c hc => hm _ _ _ (by omega) (by omega)
  have m11 : Im 11 0 1 = I 11 0 1 := hm _ _ _ (by omega) (by omega)
  have ja : ∀ c b d, c < 11 → mix (up3 J 4 (pk p z) 8 v) (up3 J 34 0 (pk p z) v) c b d = up3 J 4 (pk p z) 8 v c b d := fun c b d hc => mix_a _ _ hc
  have jb : ∀ c b d, ¬ c < 11 → mix (up3 J 4 (pk p z) 8 v) (up3 J 34 0 (pk p z) v) c b d = up3 J 34 0 (pk p z) v c b d := fun c b d hc => mix_b _ _ hc
  have r7 : mix (ewI Ic J (pk p z) p z a x v) (meI Im J p z (pk p z) a x v) 4 (pk p z) 7 = x := by simp [mix, ewI, ttI, kapS, up3]
  have r10 : mix (ewI Ic J (pk p z) p z a x v) (meI Im J p z (pk p z) a x v) 4 (pk p z) 10 = 1 := by simp [mix, ewI, ttI, kapS, up3]
  have r11 : mix (ewI Ic J (pk p z) p z a x v) (meI Im J p z (pk p z) a x v) 4 (pk p z) 11 = I 0 0 2 := by rw [← hc0]; simp [mix, ewI, ttI, up3]
  have r16 : mix (ewI Ic J (pk p z) p z a x v) (meI Im J p z (pk p z) a x v) 4 (pk p z) 16 = 0 := by simp [mix, ewI, ttI, up3]
  have r02 : mix (ewI Ic J (pk p z) p z a x v) (meI Im J p z (pk p z) a x v) 0 0 2 = I 0 0 2 := ec _ _ _ (by decide) (by omega) (by omega) (by omega) (by omega)
  have hsn : ∀ k, ¬ k = pk p z → ∀ d, mix (ewI Ic J (pk p z) p z a x v) (meI Im J p z (pk p z) a x v) 4 k d = I 4 k d ∧ mix (ewI Ic J (pk p z) p z a x v) (meI Im J p z (pk p z) a x v) 7 k d = I 7 k d := fun k hk d => ⟨ec _ _ _ (by decide) (by omega) (by omega) (by omega) (by omega), ec _ _ _ (by decide) (by omega) (by omega) (by omega) (by omega)⟩
  refine ⟨?_, ?_, ?_, hsn, r02⟩
  · refine sib_key hB hi (fun c b d hpf h4 h6 h26 h31 => ?_) (fun d hd => ec _ _ _ (by decide) (by omega) (by omega) (by omega) (by omega)) (fun c b d h1 h2 h3 => ?_) ?_ ?_ r10 ?_ ?_ ?_ nl ?_ ?_ ?_ ?_ ⟨?_, ?_, ?_, ?_⟩ (fun k hk => ⟨u1_n _ _ hk, u1_n _ _ hk⟩) (fun c b d hc hb => ec _ _ _ (by omega) (by omega) (by omega) (by omega) (by omega)) (fun b d hb => ?_)
    · unfold PF at hpf
      by_cases hc : c < 11
      · exact ec c b d hc (by omega) (by omega) (by omega) (by omega)
      · exact em c b d hc (by omega) (by omega) h31 (by omega) (by omega)
    · by_cases hc : c < 11
      · rw [ja _ _ _ hc, up3_n _ _ _ _ _ h1]
      · rw [jb _ _ _ hc, up3_n _ _ _ _ _ (by omega)]
    · rw [r7]; simp [mix, meI, up3, eaS_o, meA]
    · rw [r10]; simp [mix, meI, up3, eaS_o, meA]
    · have y1 : mix (ewI Ic J (pk p z) p z a x v) (meI Im J p z (pk p z) a x v) 4 (pk p z) 14 = I 4 (pk p z) 14 + 1 := by rw [← hc4]; simp [mix, ewI, ttI, kapS, up3]
      have y2 : mix (ewI Ic J (pk p z) p z a x v) (meI Im J p z (pk p z) a x v) 32 0 (pk p z) = I 32 0 (pk p z) + 1 := by rw [← m28 32 (by omega)]; simp [mix, meI, up3]
      rw [y1, y2, e14]
    · rw [ec _ _ _ (by decide) (by omega) (by omega) (by omega) (by omega), em _ _ _ (by decide) (by omega) (by omega) (by omega) (by omega) (by omega)]; exact e15
    · rw [ja _ _ _ (by decide), jb _ _ _ (by decide), up3_s, up3_s]
    · rw [r7, ja _ _ _ (by decide), up3_s]; exact hv
    · rw [r11]; exact k3.1
    · have y2 : mix (ewI Ic J (pk p z) p z a x v) (meI Im J p z (pk p z) a x v) 27 0 (pk p z) = I 11 0 1 := by rw [← m11]; simp [mix, meI, up3, eaS_o, meA]
      rw [y2]; exact k3.2.1
    · have y1 : mix (ewI Ic J (pk p z) p z a x v) (meI Im J p z (pk p z) a x v) 4 (pk p z) 9 = if ¬ I 4 (pk p z) 10 = 0 ∧ I 4 (pk p z) 7 = x ∧ J 4 (pk p z) 8 = v then I 4 (pk p z) 9 else I 0 0 2 := by rw [← hc0, ← hc4, ← hc4, ← hc4]; simp [mix, ewI, ttI, kapS, up3]
      have y2 : mix (ewI Ic J (pk p z) p z a x v) (meI Im J p z (pk p z) a x v) 28 0 (pk p z) = if ¬ I 36 0 (pk p z) = 0 ∧ I 26 0 (pk p z) = x ∧ (¬ x = 1 ∨ J 34 0 (pk p z) = v) then I 28 0 (pk p z) else I 11 0 1 := by rw [← m11, ← m28 28 (by omega), ← m28 36 (by omega), ← m28 26 (by omega)]; simp [mix, meI, up3, eaS_o, meA]
      rw [y1, y2]
      have hs := same_iff hB hP hi nl hv
      by_cases hc : ¬ I 4 (pk p z) 10 = 0 ∧ I 4 (pk p z) 7 = x ∧ J 4 (pk p z) 8 = v
      · rw [if_pos hc, if_pos (hs.mp hc)]; exact (k3.2.2.2 _ hi).2.2 (Or.inr hc.1)
      · rw [if_neg hc, if_neg (fun w => hc (hs.mpr w)), k3.1, k3.2.1]
    · rw [u1_s]; simp [mix, ewI, ttI, kapS, up3]
    · rw [u1_s]; simp [mix, meI, up3, eaS_o, meA]
    · rw [u1_s]; omega
    · intro t ht
      rw [u1_s] at ht
      rw [u1_s]
      refine ⟨?_, ?_, (htp t ht).2.2⟩
      · rw [← (htp t ht).1]; simp [mix, ewI, ttI, kapS, up3, ht]
      · rw [← (htp t ht).2.1]
        have y : mix (ewI Ic J (pk p z) p z a x v) (meI Im J p z (pk p z) a x v) 31 0 (8 * pk p z + t) = eaS (meA Im J (pk p z) a x v) (pk p z) (40 * p + z) a 31 0 (8 * pk p z + t) := by simp [mix, meI, up3]
        rw [y, ea_i _ _ _ _ _ ht]
        simp [meA, up3]
    · rw [ja _ _ _ (by decide), up3_c _ _ _ _ _ (by decide)]
  · refine pop_sim hB hP hp hz (fun k hk => u1_n _ _ hk) r02 (fun b d hb => (hsn b hb d).1) (fun b d hb => (hsn b hb d).2) (fun b d hb => ec _ _ _ (by decide) (by omega) (by omega) (by omega) (by omega)) (fun b hb => ec _ _ _ (by decide) (by omega) (by omega) (by omega) (by omega)) (fun b hb => em _ _ _ (by decide) (by omega) (by omega) (by omega) (by omega) (by omega)) (fun d => em _ _ _ (by decide) (by omega) (by omega) (by omega) (by omega) (by omega)) (fun d hd => em _ _ _ (by decide) (by omega) (by omega) (by omega) (by omega) (by omega)) (fun d hd => em _ _ _ (by decide) (by omega) (by omega) (by omega) (by omega) (by omega)) (fun d hd => em _ _ _ (by decide) (by omega) (by omega) (by omega) (by omega) (fun ⟨_, t, h1, h2⟩ => hd t h1 h2)) (fun c b d h1 hc => ?_) ?_ ?_ r16
    · rw [ja _ _ _ hc, up3_n _ _ _ _ _ (by omega)]
    · simp [mix, ewI, ttI, up3]
    · simp [mix, meI, up3]
  · unfold sure
    rw [r10, r11, r02]
    simp
theorem kend_sim {n ver : Nat} {rs aq zs : Nat → Nat} {rw ap pk : Nat → Nat → Nat} {I : Fi} {J : Fj} {R : Fr} (hB : SIB n ver rs aq rw ap I J R) (hP : PIL n rs aq rw zs pk I J R) {p z : Nat} (hp : p < 5) (hz : zs p = z + 1) (h10 : ¬ I 4 (pk p z) 10 = 0) : ∃ I', I' = mix (ttI (up3 (up3 I 4 (pk p z) 15 (I 4 (pk p z) 15 + 1)) 4 (pk p z) 11 (I 0 0 2)) p (pk p z) z) (up3 (up3 (up3 I 27 0 (pk p z) (I 11 0 1)) 33 0 (pk p z) (I 33 0 (pk p z) + 1)) 37 0 p (nI z)) ∧ SIB n ver rs aq rw ap I' J R ∧ PIL n rs aq rw (u1 zs p z) pk I' J R ∧ sure I' (pk p z) = true ∧ (∀ k, ¬ k = pk p z → ∀ d, I' 4 k d = I 4 k d ∧ I' 7 k d = I 7 k d) ∧ I' 0 0 2 = I 0 0 2 := by
  refine ⟨_, rfl, ?_⟩
  have htop := hP.2.1 p z hp (by omega)
  have h40 := (hP.1 p hp).2.2
  obtain ⟨hi, hsu, -, -, -, f, -, -, hf, hf6, -⟩ := htop
  have nl : ¬ I 4 (pk p z) 1 = -1 := by rw [hf]; exact nI_nm (by omega)
  obtain ⟨k1, k2, k3, k4, k5, k6, k7, a1, a2, a3, a4, a5, a6⟩ := id hB
  obtain ⟨e1, e5, e7, e10, e14, e15, e8⟩ := k1 _ hi
  generalize hX : mix (ttI (up3 (up3 I 4 (pk p z) 15 (I 4 (pk p z) 15 + 1)) 4 (pk p z) 11 (I 0 0 2)) p (pk p z) z) (up3 (up3 (up3 I 27 0 (pk p z) (I 11 0 1)) 33 0 (pk p z) (I 33 0 (pk p z) + 1)) 37 0 p (nI z)) = X
  have ec : ∀ c b d, c < 11 → ¬ (c = 4 ∧ b = pk p z ∧ (d = 15 ∨ d = 11 ∨ d = 16)) → ¬ (c = 9 ∧ b = p ∧ d = 1) → X c b d = I c b d := fun c b d hc h4 h9 => by
    rw [← hX, mix_a _ _ hc]
    unfold ttI
    rw [up3_n _ _ _ _ _ (by omega), up3_n _ _ _ _ _ (by omega), up3_n _ _ _ _ _ (by omega), up3_n _ _ _ _ _ (by omega)]
  have em : ∀ c b d, ¬ c < 11 → ¬ ((c = 27 ∨ c = 33) ∧ d = pk p z) → ¬ (c = 37 ∧ d = p) → X c b d = I c b d := fun c b d hc h4 h9 => by
    rw [← hX, mix_b _ _ hc, up3_n _ _ _ _ _ (by omega), up3_n _ _ _ _ _ (by omega), up3_n _ _ _ _ _ (by omega)]
  have r10 : X 4 (pk p z) 10 = 1 := by
    rw [ec _ _ _ (by decide) (by omega) (by omega)]
    exact (k2 _ hi).2.2.1.resolve_left h10
  have r11 : X 4 (pk p z) 11 = I 0 0 2 := by rw [← hX]; simp [mix, ttI, up3]
  have r02 : X 0 0 2 = I 0 0 2 := ec _ _ _ (by decide) (by omega) (by omega)
  have r15 : X 4 (pk p z) 15 = I 4 (pk p z) 15 + 1 := by rw [← hX]; simp [mix, ttI, up3]
  have r33 : X 33 0 (pk p z) = I 33 0 (pk p z) + 1 := by rw [← hX]; simp [mix, up3]
  have r27 : X 27 0 (pk p z) = I 11 0 1 := by rw [← hX]; simp [mix, up3]
  have r16 : X 4 (pk p z) 16 = 0 := by rw [← hX]; simp [mix, ttI, up3]
  have r9 : X 9 p 1 = nI z := by rw [← hX]; simp [mix, ttI, up3]
  have r37 : X 37 0 p = nI z := by rw [← hX]; simp [mix, up3]
  have hsn : ∀ k, ¬ k = pk p z → ∀ d, X 4 k d = I 4 k d ∧ X 7 k d = I 7 k d := fun k hk d => ⟨ec _ _ _ (by decide) (by omega) (by omega), ec _ _ _ (by decide) (by omega) (by omega)⟩
  refine ⟨?_, ?_, ?_, hsn, r02⟩
  · refine sib_key hB hi (fun c b d hpf h4 h6 h26 h31 => ?_) (fun d hd => ec _ _ _ (by decide) (by omega) (by omega)) (fun c b d h1 h2 h3 => rfl) ?_ ?_ r10 ?_ ?_ e8 nl ?_ ?_ ?_ ?_ ⟨?_, ?_, ?_, ?_⟩ (fun k hk => ⟨rfl, rfl⟩) (fun c b d hc hb => ec _ _ _ (by omega) (by omega) (by omega)) (fun b d hb => rfl)
    · unfold PF at hpf
      by_cases hc : c < 11
      · exact ec c b d hc (by omega) (by omega)
      · exact em c b d hc (by omega) (by omega)
    · rw [ec _ _ _ (by decide) (by omega) (by omega), em _ _ _ (by decide) (by omega) (by omega)]; exact e7
    · rw [ec _ _ _ (by decide) (by omega) (by omega), em _ _ _ (by decide) (by omega) (by omega)]; exact e10
    · rw [ec _ _ _ (by decide) (by omega) (by omega), em _ _ _ (by decide) (by omega) (by omega)]; exact e14
    · rw [r15, r33, e15]
    · rw [ec _ _ _ (by decide) (by omega) (by omega)]; exact (k2 _ hi).2.2.2.2 nl
    · rw [r11]; exact k3.1
    · rw [r27]; exact k3.2.1
    · rw [ec _ _ _ (by decide) (by omega) (by omega), em _ _ _ (by decide) (by omega) (by omega)]; exact (k3.2.2.2 _ hi).2.2 (Or.inr h10)
    · rw [ec _ _ _ (by decide) (by omega) (by omega)]; exact (k4 _ hi).1
    · rw [em _ _ _ (by decide) (by omega) (by omega)]; exact (k4 _ hi).2.1
    · exact (k4 _ hi).2.2.1
    · intro t ht
      rw [ec _ _ _ (by decide) (by omega) (by omega), em _ _ _ (by decide) (by omega) (by omega)]; exact (k4 _ hi).2.2.2 t ht
  · exact pop_sim hB hP hp hz (fun k hk => rfl) r02 (fun b d hb => (hsn b hb d).1) (fun b d hb => (hsn b hb d).2) (fun b d hb => ec _ _ _ (by decide) (by omega) (by omega)) (fun b hb => ec _ _ _ (by decide) (by omega) (by omega)) (fun b hb => em _ _ _ (by decide) (by omega) (by omega)) (fun d => em _ _ _ (by decide) (by omega) (by omega)) (fun d hd => em _ _ _ (by decide) (by omega) (by omega)) (fun d hd => em _ _ _ (by decide) (by omega) (by omega)) (fun d hd => em _ _ _ (by decide) (by omega) (by omega)) (fun c b d h1 hc => rfl) r9 r37 r16
  · unfold sure
    rw [r10, r11, r02]
    simp

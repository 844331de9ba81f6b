/-! the class's cells of one store, the reference's of another -/
def mix {α : Type} (A B : Nat → Nat → Nat → α) : Nat → Nat → Nat → α := fun c b d => if c < 11 then A c b d else B c b d
theorem mix_a {α : Type} (A B : Nat → Nat → Nat → α) {c b d : Nat} (h : c < 11) : mix A B c b d = A c b d := if_pos h
theorem mix_b {α : Type} (A B : Nat → Nat → Nat → α) {c b d : Nat} (h : ¬ c < 11) : mix A B c b d = B c b d := if_neg h
theorem mix_l {α : Type} (A B C : Nat → Nat → Nat → α) : mix (mix A B) C = mix A C := by
  funext c b d; unfold mix; split <;> rfl
theorem mix_r {α : Type} (A B C : Nat → Nat → Nat → α) : mix A (mix B C) = mix A C := by
  funext c b d; unfold mix; split <;> rfl
theorem mix_s {α : Type} (A : Nat → Nat → Nat → α) : mix A A = A := by
  funext c b d; unfold mix; split <;> rfl
theorem up_ma {α : Type} (A B : Nat → Nat → Nat → α) {c b d : Nat} {v : α} (h : c < 11) : up3 (mix A B) c b d v = mix (up3 A c b d v) B := by
  funext a e g
  unfold mix up3
  by_cases h1 : a = c ∧ e = b ∧ g = d
  · obtain ⟨rfl, rfl, rfl⟩ := h1; simp [h]
  · simp [h1]
theorem up_mb {α : Type} (A B : Nat → Nat → Nat → α) {c b d : Nat} {v : α} (h : ¬ c < 11) : up3 (mix A B) c b d v = mix A (up3 B c b d v) := by
  funext a e g
  unfold mix up3
  by_cases h1 : a = c ∧ e = b ∧ g = d
  · obtain ⟨rfl, rfl, rfl⟩ := h1; simp [h]
  · simp [h1]
theorem mx_sure (A B : Fi) (k : Nat) : sure (mix A B) k = sure A k := by simp [sure, mix]
theorem mx_msure (A B : Fi) (k : Nat) : msure (mix A B) k = msure B k := by simp [msure, mix]
theorem mx_sw (A B : Fi) (i : Nat) : swI (mix A B) i = mix (swI A i) B := by
  unfold swI
  rw [up_ma _ _ (by decide), up_ma _ _ (by decide), up_ma _ _ (by decide)]
  rfl
theorem mx_st (A B : Fi) (i : Nat) : stI (mix A B) i = mix (stI A i) B := by
  unfold stI
  rw [mx_sw, up_ma _ _ (by decide)]
  rfl
theorem mx_put (A B : Fi) (p0 i z : Nat) : putI (mix A B) p0 i z = mix (putI A p0 i z) B := by
  unfold putI
  rw [mx_st, up_ma _ _ (by decide), up_ma _ _ (by decide)]
theorem mx_tt (A B : Fi) (p0 k z : Nat) : ttI (mix A B) p0 k z = mix (ttI A p0 k z) B := by
  unfold ttI
  rw [up_ma _ _ (by decide), up_ma _ _ (by decide)]
theorem mx_tka (R : Fr) (p0 : Nat) (B : Fi) : ∀ (z : Nat) (A : Fi), tka R p0 z (mix A B) = mix (tka R p0 z A) B
  | 0, A => rfl
  | z + 1, A => by rw [tka, tka, mx_tt, mx_tka R p0 B z]
theorem mx_kap (A B : Fi) (i k t : Nat) : kapS (mix A B) i k t = mix (kapS A i k t) B := by
  unfold kapS
  rw [up_ma _ _ (by decide)]
  funext c b d
  by_cases h : c = 6 ∧ b = i ∧ d < t
  · obtain ⟨rfl, rfl, h⟩ := h
    simp [mix, h]
  · simp [mix, h]
theorem mx_ew (A B : Fi) (J K : Fj) (i p0 z k : Nat) (x : Int32) (v : Int64) : ewI (mix A B) (mix J K) i p0 z k x v = mix (ewI A J i p0 z k x v) B := by
  unfold ewI
  rw [up_ma _ _ (by decide), up_ma _ _ (by decide), up_ma _ _ (by decide), up_ma _ _ (by decide), mx_kap, up_ma _ _ (by decide), mx_tt]
  rfl
theorem mx_ly (A B : Fi) (p0 k z : Nat) : lyI (mix A B) p0 k z = mix A (lyI B p0 k z) := by
  unfold lyI
  rw [up_mb _ _ (by decide), up_mb _ _ (by decide), up_mb _ _ (by decide), up_mb _ _ (by decide)]
  rfl
theorem mx_ea (A B : Fi) (k e0 : Nat) : ∀ t, eaS (mix A B) k e0 t = mix A (eaS B k e0 t)
  | 0 => rfl
  | t + 1 => by rw [eaS, eaS, mx_ea A B k e0 t, up_mb _ _ (by decide)]; rfl
theorem mx_me (A B : Fi) (J K : Fj) (p0 z k a : Nat) (x : Int32) (v : Int64) : meI (mix A B) (mix J K) p0 z k a x v = mix A (meI B K p0 z k a x v) := by
  unfold meI meA
  rw [up_mb _ _ (by decide), up_mb _ _ (by decide), up_mb _ _ (by decide), up_mb _ _ (by decide), up_mb _ _ (by decide), mx_ea, up_mb _ _ (by decide), up_mb _ _ (by decide)]
  rfl
/-! pigeons -/
theorem pigeon : ∀ (n z : Nat) (f : Nat → Nat), (∀ j, j < z → f j < n) → (∀ i j, i < z → j < z → f i = f j → i = j) → z ≤ n
  | 0, z, f, h, _ => by
    rcases Nat.eq_zero_or_pos z with hz | hz
    · omega
    · exact absurd (h 0 hz) (Nat.not_lt_zero _)
  | n + 1, z, f, h, hi => by
    by_cases hx : ∃ j, j < z ∧ f j = n
    · obtain ⟨j0, hj, e⟩ := hx
      have := pigeon n (z - 1) (fun j => f (if j < j0 then j else j + 1)) (fun j hj2 => by
        split
        · have h1 := h j (by omega)
          have h2 : f j ≠ n := fun z => by have := hi j j0 (by omega) hj (by omega); omega
          omega
        · have h1 := h (j + 1) (by omega)
          have h2 : f (j + 1) ≠ n := fun z => by have := hi (j + 1) j0 (by omega) hj (by omega); omega
          omega) (fun i j hi2 hj2 he => by
        have := hi _ _ (by split <;> omega) (by split <;> omega) he
        split at this <;> split at this <;> omega)
      omega
    · have := pigeon n z f (fun j hj => by
        have h1 := h j hj
        have h2 : f j ≠ n := fun e => hx ⟨j, hj, e⟩
        omega) hi
      omega
/-! where a key lies -/
theorem nI_inj {a b : Nat} (ha : a < 100) (hb : b < 100) (h : nI a = nI b) : a = b := (nI_eq (by omega) (by omega)).mp h
theorem nI_nm {a : Nat} (ha : a < 100) : ¬ nI a = -1 := fun h => by
  have h2 := congrArg Int32.toInt h
  rw [nI_toInt (by omega)] at h2
  have h3 : (-1 : Int32).toInt = -1 := by decide
  omega
theorem pofJ_1 {I : Fi} {x : Int32} {p0 : Nat} {g : Int32} (hp : p0 < 5) : ∀ t, pofJ I x p0 g t = -1 ↔ (g = -1 ∨ ∃ j, j < t ∧ I 38 0 (40 * p0 + j) = x) ∧ (∀ j, j < t → ¬ I 38 0 (40 * p0 + j) = x)
  | 0 => by simp [pofJ]
  | t + 1 => by
    rw [pofJ]
    by_cases h : I 38 0 (40 * p0 + t) = x
    · rw [if_pos h]
      exact ⟨fun z => absurd z (nI_nm (by omega)), fun z => absurd h (z.2 t (Nat.lt_succ_self t))⟩
    · rw [if_neg h, pofJ_1 hp t]
      constructor
      · intro ⟨h1, h2⟩
        refine ⟨h1.imp id (fun ⟨j, a, b⟩ => ⟨j, by omega, b⟩), fun j hj => ?_⟩
        rcases Nat.lt_succ_iff_lt_or_eq.mp hj with hj | rfl
        · exact h2 j hj
        · exact h
      · intro ⟨h1, h2⟩
        exact ⟨Or.inl (h1.elim id (fun ⟨j, a, b⟩ => absurd b (h2 j a))), fun j hj => h2 j (by omega)⟩
theorem pofP_1 {I : Fi} {x : Int32} {zs : Nat → Nat} : ∀ t, t ≤ 5 → (pofP I x zs t = -1 ↔ ∀ q j, q < t → j < zs q → ¬ I 38 0 (40 * q + j) = x)
  | 0, _ => ⟨fun _ q _ h => absurd h (Nat.not_lt_zero _), fun _ => rfl⟩
  | t + 1, ht => by
    rw [pofP, pofJ_1 (by omega), pofP_1 t (by omega)]
    constructor
    · intro ⟨h1, h2⟩ q j hq hj
      rcases Nat.lt_succ_iff_lt_or_eq.mp hq with hq | rfl
      · exact (h1.elim id (fun ⟨j, a, b⟩ => absurd b (h2 j a))) q j hq hj
      · exact h2 j hj
    · intro h
      exact ⟨Or.inl (fun q j hq hj => h q j (by omega) hj), fun j hj => h t j (by omega) hj⟩
theorem pil_pof {n : Nat} {rs aq zs : Nat → Nat} {rw pk : Nat → Nat → Nat} {I : Fi} {J : Fj} {R : Fr} (h : PIL n rs aq rw zs pk I J R) (hn : n ≤ 40) {k : Nat} (hk : k < n) : pofP I (nI k) zs 5 = -1 ↔ I 4 k 16 = 0 := by
  rw [pofP_1 5 (Nat.le_refl 5)]
  constructor
  · intro h1
    rcases h.2.2.2 k hk with ⟨-, q, j, hq, hj, e⟩ | ⟨h0, -⟩
    · exact absurd (by rw [← e]; exact (h.2.1 q j hq hj).2.2.2.1) (h1 q j hq hj)
    · exact h0
  · intro h0 q j hq hj e
    have h2 := h.2.1 q j hq hj
    have e2 : pk q j = k := nI_inj (by have := h2.1; omega) (by omega) (by rw [← h2.2.2.2.1, e])
    rcases h.2.2.2 k hk with ⟨h1, -⟩ | ⟨-, h1⟩
    · rw [h0] at h1; exact absurd h1 (by decide)
    · exact h1 q j hq hj e2
theorem pil_room {n : Nat} {rs aq zs : Nat → Nat} {rw pk : Nat → Nat → Nat} {I : Fi} {J : Fj} {R : Fr} (h : PIL n rs aq rw zs pk I J R) (hn : n ≤ 40) {k p0 : Nat} (hk : k < n) (hp : p0 < 5) (h0 : I 4 k 16 = 0) : zs p0 < 40 := by
  have h1 : ∀ q j, q < 5 → j < zs q → ¬ pk q j = k := by
    rcases h.2.2.2 k hk with ⟨z, -⟩ | ⟨-, z⟩
    · rw [h0] at z; exact absurd z (by decide)
    · exact z
  have := pigeon n (zs p0 + 1) (fun j => if j < zs p0 then pk p0 j else k) (fun j hj => by
    split
    · exact (h.2.1 p0 j hp ‹_›).1
    · exact hk) (fun i j hi hj he => by
    split at he <;> split at he
    · exact (h.2.2.1 p0 i p0 j hp ‹_› hp ‹_› he).2
    · exact absurd he (h1 p0 i hp ‹_›)
    · exact absurd he.symm (h1 p0 j hp ‹_›)
    · omega)
  omega
/-! an entry of a pile stays what it is -/
theorem gat_c {f : Nat} {tv tw : Nat → Int64} : ∀ a, (∀ i, i < a → tv i = tw i) → gat f tv a = gat f tw a
  | 0, _ => rfl
  | a + 1, h => by rw [gat, gat, gat_c a (fun i hi => h i (by omega)), h a (by omega)]
theorem fls_c {sp : Int32} {f r a : Nat} {tv tw : Nat → Int64} (h : ∀ i, i < a → tv i = tw i) : fls sp f r a tv = fls sp f r a tw := by
  unfold fls
  rcases Nat.eq_zero_or_pos a with rfl | ha
  · simp
  · rw [h (a - 1) (by omega)]
theorem PE_cong {n : Nat} {rs aq aq' : Nat → Nat} {rw : Nat → Nat → Nat} {I I' : Fi} {J J' : Fj} {R R' : Fr} {q i k : Nat} (h : PE n rs aq rw I J R q i k) (hr8 : rs k ≤ 8) (hrw : ∀ i, i < rs k → rw k i < n) (hR : R' 10 q i = R 10 q i) (h38 : I' 38 0 (40 * q + i) = I 38 0 (40 * q + i)) (h39 : I' 39 0 (40 * q + i) = I 39 0 (40 * q + i)) (h41 : I' 41 0 (40 * q + i) = I 41 0 (40 * q + i)) (h40 : ∀ d, d < 8 → I' 40 0 (8 * (40 * q + i) + d) = I 40 0 (8 * (40 * q + i) + d)) (h7 : ∀ d, I' 7 k d = I 7 k d) (h8 : ∀ d, I' 8 k d = I 8 k d) (hJ7 : J' 7 k 3 = J 7 k 3) (hk1 : I' 4 k 1 = I 4 k 1) (hk5 : I' 4 k 5 = I 4 k 5) (hk10 : I' 4 k 10 = I 4 k 10) (haq : aq' k = aq k) (hsu : sure I' k = false) (hsv : ∀ y, y < n → sure I y = true → sure I' y = true ∧ I' 4 y 7 = I 4 y 7 ∧ J' 4 y 8 = J 4 y 8) : PE n rs aq' rw I' J' R' q i k := by
  obtain ⟨b1, b2, b3, b4, a, f, b5, b6, b7, b8, b9⟩ := h
  refine ⟨b1, hsu, by rw [hR]; exact b3, by rw [h38]; exact b4, a, f, by rw [h7]; exact b5, by rw [h39]; exact b6, by rw [hk1]; exact b7, b8, ?_⟩
  rcases b9 with ⟨c1, c2, c3, c4⟩ | ⟨c1, c2, c3, tp, c4, c5, c6, c7⟩
  · exact Or.inl ⟨by rw [h7]; exact c1, by rw [h41]; exact c2, by rw [hk10]; exact c3, by rw [haq]; exact c4⟩
  · have hv : ∀ i, i < a → sure I' (rw k (tp i)) = true ∧ I' 4 (rw k (tp i)) 7 = I 4 (rw k (tp i)) 7 ∧ J' 4 (rw k (tp i)) 8 = J 4 (rw k (tp i)) 8 := fun i hi => hsv _ (hrw _ (c4 i hi).2.2.1) (c4 i hi).2.2.2.1
    refine Or.inr ⟨by rw [h7]; exact c1, by rw [h41]; exact c2, c3, tp, fun i hi => ?_, ?_, ?_, ?_⟩
    · obtain ⟨d1, d2, d3, d4, d5⟩ := c4 i hi
      exact ⟨by rw [h8]; exact d1, by rw [h40 _ (by omega)]; exact d2, d3, (hv i hi).1, by rw [(hv i hi).2.1]; exact d5⟩
    · rw [hJ7, c5]; exact gat_c a (fun i hi => (hv i hi).2.2.symm)
    · rw [h7, hk5, c6]; exact fls_c (fun i hi => (hv i hi).2.2.symm)
    · intro h3 i h0 hi; rw [(hv i (by omega)).2.2]; exact c7 h3 i h0 hi

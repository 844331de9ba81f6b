/-! THE RELATION between the class's cells and the reference's -/
def KEQ (n : Nat) (I : Fi) (J : Fj) : Prop := ∀ k, k < n → I 4 k 1 = I 23 0 k ∧ I 4 k 5 = I 35 0 k ∧ I 4 k 7 = I 26 0 k ∧ I 4 k 10 = I 36 0 k ∧ I 4 k 14 = I 32 0 k ∧ I 4 k 15 = I 33 0 k ∧ J 4 k 8 = J 34 0 k
def KTY (n : Nat) (rs : Nat → Nat) (I : Fi) (J : Fj) : Prop := ∀ k, k < n → (I 4 k 1 = -1 ∨ ∃ f, f < 6 ∧ I 4 k 1 = nI f) ∧ (I 4 k 5 = 0 ∨ I 4 k 5 = 1) ∧ (I 4 k 10 = 0 ∨ I 4 k 10 = 1) ∧ (I 4 k 1 = -1 → I 4 k 10 = 0 ∧ I 4 k 7 = 1 ∧ rs k = 0) ∧ (¬ I 4 k 1 = -1 → ¬ I 4 k 7 = 1 → J 4 k 8 = 0)
def KVS (n ver : Nat) (I : Fi) : Prop := I 0 0 2 = nI ver ∧ I 11 0 1 = nI ver ∧ ver ≤ 1000 ∧ ∀ k, k < n → ((I 29 0 k = -1 ∧ I 4 k 6 = 0) ∨ I 29 0 k = I 4 k 6) ∧ (¬ I 4 k 10 = 0 → I 4 k 11 = I 27 0 k ∧ ∃ v, v ≤ ver ∧ I 4 k 11 = nI v) ∧ ((I 4 k 1 = -1 ∨ ¬ I 4 k 10 = 0) → I 4 k 9 = I 28 0 k)
def KAS (n : Nat) (rs aq : Nat → Nat) (ap : Nat → Nat → Nat) (I : Fi) : Prop := ∀ k, k < n → I 4 k 13 = nI (aq k) ∧ I 30 0 k = nI (aq k) ∧ aq k ≤ 8 ∧ ∀ i, i < aq k → I 6 k i = nI (ap k i) ∧ I 31 0 (8 * k + i) = nI (ap k i) ∧ ap k i < rs k
def RWS (n : Nat) (rs : Nat → Nat) (rw : Nat → Nat → Nat) (I : Fi) (R : Fr) : Prop := (∀ k, k < n → I 4 k 3 = nI (rs k) ∧ I 24 0 k = nI (rs k) ∧ rs k ≤ 8 ∧ ∀ i, i < rs k → R 5 k i = some (rw k i) ∧ I 25 0 (8 * k + i) = nI (rw k i) ∧ rw k i < n) ∧ ∀ k, n ≤ k → rs k = 0
def RCS (n : Nat) (rs : Nat → Nat) (rw : Nat → Nat → Nat) (J : Fj) : Prop := (∀ k j, k < n → j < 40 → (bit (J 4 k 4) j = true ↔ Rch n rs rw k j)) ∧ ∀ k i, k < n → i < rs k → ¬ Rch n rs rw (rw k i) k
def RNG (I : Fi) : Prop := ∃ z, z ≤ 40 ∧ I 0 0 5 = nI z ∧ I 11 0 23 = nI z ∧ ∀ i, i < z → I 3 0 i = I 42 0 i
def STR (n : Nat) (I : Fi) (J : Fj) (R : Fr) : Prop := ST n R ∧ KG n I R ∧ MG n I ∧ CLo (Nn n) R ∧ (∀ c i, (c = 4 ∨ c = 5 ∨ c = 6 ∨ c = 7 ∨ c = 8) → n ≤ i → Dft I J R c i) ∧ ∀ k, n ≤ k → I 24 0 k = 0 ∧ I 26 0 k = 0 ∧ I 30 0 k = 0 ∧ I 32 0 k = 0 ∧ I 33 0 k = 0 ∧ I 35 0 k = 0 ∧ I 36 0 k = 0 ∧ J 34 0 k = 0
/-- the work of the key k, entry j of the pile p0 -/
def PEw (n : Nat) (rs : Nat → Nat) (rw : Nat → Nat → Nat) (I : Fi) (J : Fj) (e0 k a f : Nat) : Prop := ∃ tp : Nat → Nat, (∀ i, i < a → I 8 k i = nI (tp i) ∧ I 40 0 (8 * e0 + i) = nI (tp i) ∧ tp i < rs k ∧ sure I (rw k (tp i)) = true ∧ I 4 (rw k (tp i)) 7 = 1) ∧ J 7 k 3 = gat f (fun i => J 4 (rw k (tp i)) 8) a ∧ I 7 k 4 = fls (I 4 k 5) f (rs k) a (fun i => J 4 (rw k (tp i)) 8) ∧ (f = 3 → ∀ i, 0 < i → i + 1 < a → ¬ J 4 (rw k (tp i)) 8 = 0)
def PE (n : Nat) (rs aq : Nat → Nat) (rw : Nat → Nat → Nat) (I : Fi) (J : Fj) (R : Fr) (p0 j k : Nat) : Prop := k < n ∧ sure I k = false ∧ R 10 p0 j = some k ∧ I 38 0 (40 * p0 + j) = nI k ∧ ∃ a f, I 7 k 1 = nI a ∧ I 39 0 (40 * p0 + j) = nI a ∧ I 4 k 1 = nI f ∧ f < 6 ∧
  ((I 7 k 0 = 1 ∧ I 41 0 (40 * p0 + j) = 0 ∧ ¬ I 4 k 10 = 0 ∧ a ≤ aq k) ∨ (I 7 k 0 = 0 ∧ I 41 0 (40 * p0 + j) = 1 ∧ a ≤ rs k ∧ PEw n rs rw I J (40 * p0 + j) k a f))
def PIL (n : Nat) (rs aq : Nat → Nat) (rw : Nat → Nat → Nat) (zs : Nat → Nat) (pk : Nat → Nat → Nat) (I : Fi) (J : Fj) (R : Fr) : Prop :=
  (∀ q, q < 5 → I 9 q 1 = nI (zs q) ∧ I 37 0 q = nI (zs q) ∧ zs q ≤ 40) ∧ (∀ q j, q < 5 → j < zs q → PE n rs aq rw I J R q j (pk q j)) ∧ (∀ q j q2 j2, q < 5 → j < zs q → q2 < 5 → j2 < zs q2 → pk q j = pk q2 j2 → q = q2 ∧ j = j2) ∧
  ∀ k, k < n → (I 4 k 16 = 1 ∧ ∃ q j, q < 5 ∧ j < zs q ∧ pk q j = k) ∨ (I 4 k 16 = 0 ∧ ∀ q j, q < 5 → j < zs q → ¬ pk q j = k)
/-- all but the piles -/
def SIB (n ver : Nat) (rs aq : Nat → Nat) (rw ap : Nat → Nat → Nat) (I : Fi) (J : Fj) (R : Fr) : Prop := KEQ n I J ∧ KTY n rs I J ∧ KVS n ver I ∧ KAS n rs aq ap I ∧ RWS n rs rw I R ∧ RCS n rs rw J ∧ RNG I ∧ STR n I J R
def SIM (n ver : Nat) (I : Fi) (J : Fj) (R : Fr) : Prop := ∃ (rs aq zs : Nat → Nat) (rw ap pk : Nat → Nat → Nat), SIB n ver rs aq rw ap I J R ∧ PIL n rs aq rw zs pk I J R ∧ zs 4 = 0
/-! what follows at once -/
theorem sib_sure {n ver : Nat} {rs aq : Nat → Nat} {rw ap : Nat → Nat → Nat} {I : Fi} {J : Fj} {R : Fr} (h : SIB n ver rs aq rw ap I J R) {k : Nat} (hk : k < n) : msure I k = sure I k := by
  obtain ⟨hq, -, hv, -⟩ := h
  obtain ⟨e1, -, -, e4, -⟩ := hq k hk
  obtain ⟨v1, v2, -, v3⟩ := hv
  obtain ⟨-, w2, -⟩ := v3 k hk
  unfold msure sure
  congr 1
  rw [← e1, ← e4, v1, v2]
  apply propext
  by_cases h10 : I 4 k 10 = 0
  · simp [h10]
  · rw [(w2 h10).1]
theorem nIk {n : Nat} (x : Int32) (hn : n ≤ 40) : (x < 0 ∨ nI n ≤ x) ∨ ∃ k, k < n ∧ x = nI k := by
  rcases pk_ix x (show n < 2 ^ 31 by omega) with h | h | h
  · exact Or.inl (Or.inl h)
  · exact Or.inl (Or.inr h)
  · exact Or.inr h

theorem up3_sw {α : Type} (f : Nat → Nat → Nat → α) {c i k c2 i2 k2 : Nat} {v w : α} (h : ¬ (c2 = c ∧ i2 = i ∧ k2 = k)) : up3 (up3 f c i k v) c2 i2 k2 w = up3 (up3 f c2 i2 k2 w) c i k v := by
  funext a b d
  by_cases h1 : a = c ∧ b = i ∧ d = k
  · obtain ⟨rfl, rfl, rfl⟩ := h1
    rw [up3_s, up3_n _ _ _ _ _ (fun z => h ⟨z.1.symm, z.2.1.symm, z.2.2.symm⟩), up3_s]
  · rw [up3_n _ _ _ _ _ h1]
    by_cases h2 : a = c2 ∧ b = i2 ∧ d = k2
    · obtain ⟨rfl, rfl, rfl⟩ := h2; rw [up3_s, up3_s]
    · rw [up3_n _ _ _ _ _ h2, up3_n _ _ _ _ _ h2, up3_n _ _ _ _ _ h1]
/-! all piles become empty; change, spoil, drop, cancel -/
theorem tka_16 (R : Fr) (p0 k : Nat) : ∀ (z : Nat) (I : Fi), (I 4 k 16 = 0 ∨ ∃ j, j < z ∧ R 10 p0 j = some k) → tka R p0 z I 4 k 16 = 0
  | 0, I, h => by
    rcases h with h | ⟨j, h, -⟩
    · exact h
    · exact absurd h (Nat.not_lt_zero _)
  | z + 1, I, h => by
    rw [tka]
    apply tka_16
    unfold ttI
    rw [up3_c _ _ _ _ _ (by decide)]
    by_cases hk : k = (R 10 p0 z).getD 0
    · left; rw [← hk, up3_s]
    · rw [up3_i _ _ _ _ _ hk]
      rcases h with h | ⟨j, h, hj⟩
      · exact Or.inl h
      · rcases Nat.lt_succ_iff_lt_or_eq.mp h with h | h
        · exact Or.inr ⟨j, h, hj⟩
        · subst h; rw [hj] at hk; exact absurd rfl hk
theorem tka_9 (R : Fr) (p0 : Nat) : ∀ (z : Nat) (I : Fi), I 9 p0 1 = nI z → tka R p0 z I 9 p0 1 = nI 0
  | 0, I, h => h
  | z + 1, I, _ => by
    rw [tka]
    exact tka_9 R p0 z _ (by unfold ttI; rw [up3_s])
theorem epS_16 (R : Fr) (zs : Nat → Nat) (I : Fi) (k : Nat) : ∀ t, (I 4 k 16 = 0 ∨ ∃ q j, q < t ∧ j < zs q ∧ R 10 q j = some k) → epS R zs I t 4 k 16 = 0
  | 0, h => by
    rcases h with h | ⟨q, j, h, -⟩
    · exact h
    · exact absurd h (Nat.not_lt_zero _)
  | t + 1, h => by
    rw [epS]
    apply tka_16
    rcases h with h | ⟨q, j, h, hj, hr⟩
    · exact Or.inl (epS_16 R zs I k t (Or.inl h))
    · rcases Nat.lt_succ_iff_lt_or_eq.mp h with h | h
      · exact Or.inl (epS_16 R zs I k t (Or.inr ⟨q, j, h, hj, hr⟩))
      · subst h; exact Or.inr ⟨j, hj, hr⟩
theorem epS_9z (R : Fr) (zs : Nat → Nat) (I : Fi) (q : Nat) (h : I 9 q 1 = nI (zs q)) : ∀ t, q < t → epS R zs I t 9 q 1 = nI 0
  | 0, hq => absurd hq (Nat.not_lt_zero _)
  | t + 1, hq => by
    rw [epS]
    rcases Nat.lt_succ_iff_lt_or_eq.mp hq with hq | hq
    · rw [tka_o _ _ _ _ _ _ _ (by omega) (by omega)]; exact epS_9z R zs I q h t hq
    · subst hq; exact tka_9 R q (zs q) _ (by rw [epS_9 _ _ _ _ _ (Nat.le_refl _)]; exact h)
theorem pil_0 {n : Nat} {rs aq : Nat → Nat} {rw pk : Nat → Nat → Nat} {I : Fi} {J : Fj} {R : Fr} (h1 : ∀ q, q < 5 → I 9 q 1 = nI 0 ∧ I 37 0 q = nI 0) (h2 : ∀ k, k < n → I 4 k 16 = 0) : PIL n rs aq rw (fun _ => 0) pk I J R :=
  ⟨fun q hq => ⟨(h1 q hq).1, (h1 q hq).2, Nat.zero_le _⟩, fun q j hq hj => absurd hj (Nat.not_lt_zero _), fun q j q2 j2 _ hj => absurd hj (Nat.not_lt_zero _), fun k hk => Or.inr ⟨h2 k hk, fun q j _ hj => absurd hj (Nat.not_lt_zero _)⟩⟩
theorem pil_PL {n : Nat} {rs aq zs : Nat → Nat} {rw pk : Nat → Nat → Nat} {I : Fi} {J : Fj} {R : Fr} (h : PIL n rs aq rw zs pk I J R) : PL n I R zs := fun q hq => ⟨(h.1 q hq).1, (h.1 q hq).2.2, fun j hj => ⟨pk q j, (h.2.1 q j hq hj).2.2.1, (h.2.1 q j hq hj).1⟩⟩
theorem pil_HI {n : Nat} {rs aq zs : Nat → Nat} {rw pk : Nat → Nat → Nat} {I : Fi} {J : Fj} {R : Fr} (h : PIL n rs aq rw zs pk I J R) : HI I zs := fun q hq => (h.1 q hq).2
/-- behind an emptying by the class: the marks of all keys are gone -/
theorem pil_e16 {n : Nat} {rs aq zs : Nat → Nat} {rw pk : Nat → Nat → Nat} {I : Fi} {J : Fj} {R : Fr} (h : PIL n rs aq rw zs pk I J R) (I1 : Fi) (R1 : Fr) (hI : ∀ k, I1 4 k 16 = I 4 k 16) (hR : ∀ q j, R1 10 q j = R 10 q j) (k : Nat) (hk : k < n) : epS R1 zs I1 5 4 k 16 = 0 := by
  apply epS_16
  rcases h.2.2.2 k hk with ⟨-, q, j, hq, hj, e⟩ | ⟨h0, -⟩
  · exact Or.inr ⟨q, j, hq, hj, by rw [hR, ← e]; exact (h.2.1 q j hq hj).2.2.1⟩
  · exact Or.inl (by rw [hI]; exact h0)
theorem em5 (I : Fi) (c b d : Nat) (h : ¬ c = 37) : emS I 5 c b d = I c b d := emS_o I 5 (fun z => h z.1)
theorem em37 (I : Fi) (q : Nat) (hq : q < 5) : emS I 5 37 0 q = 0 := by
  rcases (show q = 0 ∨ q = 1 ∨ q = 2 ∨ q = 3 ∨ q = 4 by omega) with rfl | rfl | rfl | rfl | rfl <;> simp [emS, up3]
theorem ep4 (R : Fr) (zs : Nat → Nat) (I : Fi) (c b d : Nat) (h1 : ¬ (c = 4 ∧ d = 16)) (h2 : ¬ c = 9) : epS R zs I 5 c b d = I c b d := epS_o R zs I h1 (fun z => h2 z.1) 5
/-- cells that speak of piles alone -/
def PF (c d : Nat) : Prop := (c = 4 ∧ d = 16) ∨ c = 7 ∨ c = 8 ∨ c = 9 ∨ c = 37 ∨ c = 38 ∨ c = 39 ∨ c = 40 ∨ c = 41
theorem sib_fr {n ver : Nat} {rs aq : Nat → Nat} {rw ap : Nat → Nat → Nat} {I I' : Fi} {J J' : Fj} {R R' : Fr} (h : SIB n ver rs aq rw ap I J R) (hI : ∀ c b d, ¬ PF c d → I' c b d = I c b d) (hJ : ∀ c b d, ¬ c = 7 → J' c b d = J c b d) (hR : ∀ c b d, ¬ c = 10 → R' c b d = R c b d) (hcl : CLo (Nn n) R') (hz : ∀ c i, (c = 4 ∨ c = 7 ∨ c = 8) → n ≤ i → Dft I' J' R' c i) : SIB n ver rs aq rw ap I' J' R' := by
  obtain ⟨h1, h2, h3, h4, h5, h6, h7, a1, a2, a3, a4, a5, a6⟩ := h
  have e : ∀ c b d, ¬ PF c d → I' c b d = I c b d := hI
  refine ⟨fun k hk => ?_, fun k hk => ?_, ⟨?_, ?_, h3.2.2.1, fun k hk => ?_⟩, fun k hk => ?_, ⟨fun k hk => ?_, h5.2⟩, ⟨fun k j hk hj => ?_, h6.2⟩, ?_, ?_, ?_, ?_, hcl, fun c i hc hi => ?_, fun k hk => ?_⟩
  · simp only [PF, e, hJ, Nat.reduceEqDiff, and_false, false_and, false_or, or_self, not_false_eq_true]; exact h1 k hk
  · simp only [PF, e, hJ, Nat.reduceEqDiff, and_false, false_or, or_self, not_false_eq_true]; exact h2 k hk
  · rw [e _ _ _ (by simp [PF])]; exact h3.1
  · rw [e _ _ _ (by simp [PF])]; exact h3.2.1
  · simp only [PF, e, hJ, Nat.reduceEqDiff, and_false, false_and, false_or, or_self, not_false_eq_true]; exact h3.2.2.2 k hk
  · simp only [PF, e, hJ, Nat.reduceEqDiff, and_false, false_and, false_or, or_self, not_false_eq_true]; exact h4 k hk
  · simp only [PF, e, hR, Nat.reduceEqDiff, and_false, false_and, false_or, or_self, not_false_eq_true]; exact h5.1 k hk
  · rw [hJ _ _ _ (by decide)]; exact h6.1 k j hk hj
  · obtain ⟨z, z1, z2, z3, z4⟩ := h7
    exact ⟨z, z1, by rw [e _ _ _ (by simp [PF])]; exact z2, by rw [e _ _ _ (by simp [PF])]; exact z3, fun i hi => by rw [e _ _ _ (by simp [PF]), e _ _ _ (by simp [PF])]; exact z4 i hi⟩
  · intro c i k hi hs
    by_cases hc : c = 10
    · subst hc; simp [sfin] at hs
    · rw [hR _ _ _ hc]; exact a1 c i k hi hs
  · exact ⟨by rw [e _ _ _ (by simp [PF])]; exact a2.1, a2.2.1, fun k hk => by rw [hR _ _ _ (by decide)]; exact a2.2.2.1 k hk, fun k hk => by rw [hR _ _ _ (by decide)]; exact a2.2.2.2.1 k hk, fun k hk => by rw [e _ _ _ (by simp [PF])]; exact a2.2.2.2.2 k hk⟩
  · exact ⟨by rw [e _ _ _ (by simp [PF])]; exact a3.1, a3.2⟩
  · rcases hc with rfl | rfl | rfl | rfl | rfl
    · exact hz 4 i (by omega) hi
    · intro q; have := a5 5 i (by omega) hi q; rw [e _ _ _ (by simp [PF]), hJ _ _ _ (by decide), hR _ _ _ (by decide)]; exact this
    · intro q; have := a5 6 i (by omega) hi q; rw [e _ _ _ (by simp [PF]), hJ _ _ _ (by decide), hR _ _ _ (by decide)]; exact this
    · exact hz 7 i (by omega) hi
    · exact hz 8 i (by omega) hi
  · simp only [PF, e, hJ, Nat.reduceEqDiff, and_false, false_and, false_or, or_self, not_false_eq_true]; exact a6 k hk
theorem cancel_sib {n ver : Nat} {rs aq zs : Nat → Nat} {rw ap pk : Nat → Nat → Nat} {I : Fi} {J : Fj} {R : Fr} (h : SIB n ver rs aq rw ap I J R) (hP : PIL n rs aq rw zs pk I J R) : SIB n ver rs aq rw ap (emS (epS R zs I 5) 5) J R ∧ PIL n rs aq rw (fun _ => 0) pk (emS (epS R zs I 5) 5) J R := by
  obtain ⟨-, -, -, -, -, -, -, a1, a2, a3, a4, a5, a6⟩ := id h
  have e16 : ∀ k, n ≤ k → epS R zs I 5 4 k 16 = 0 := fun k hk => epS_16 R zs I k 5 (Or.inl (a5 4 k (by omega) hk 16).1)
  refine ⟨sib_fr h (fun c b d hp => ?_) (fun _ _ _ _ => rfl) (fun _ _ _ _ => rfl) a4 (fun c i hc hi q => ?_), pil_0 (fun q hq => ⟨?_, ?_⟩) (fun k hk => ?_)⟩
  · rw [em5 _ _ _ _ (fun z => hp (by simp [PF, z])), ep4 _ _ _ _ _ _ (fun z => hp (Or.inl z)) (fun z => hp (by simp [PF, z]))]
  · have h9 := a5 c i (by omega) hi q
    refine ⟨?_, h9.2⟩
    rw [em5 _ _ _ _ (by omega)]
    by_cases hq : c = 4 ∧ q = 16
    · obtain ⟨rfl, rfl⟩ := hq; exact e16 i hi
    · rw [ep4 _ _ _ _ _ _ hq (by omega)]; exact h9.1
  · rw [em5 _ _ _ _ (by decide)]; exact epS_9z R zs I q (hP.1 q hq).1 5 hq
  · rw [em37 _ _ hq]; rfl
  · rw [em5 _ _ _ _ (by decide)]; exact pil_e16 hP I R (fun _ => rfl) (fun _ _ => rfl) k hk
theorem em_up (I : Fi) (c b d : Nat) (v : Int32) (h : ¬ c = 37) : ∀ t, emS (up3 I c b d v) t = up3 (emS I t) c b d v
  | 0 => rfl
  | t + 1 => by rw [emS, emS, em_up I c b d v h t, up3_sw _ (fun z => h z.1.symm)]
theorem ep_up (R : Fr) (zs : Nat → Nat) (I : Fi) (c b d : Nat) (v : Int32) (h1 : ¬ (c = 4 ∧ d = 16)) (h2 : ¬ c = 9) : ∀ t, epS R zs (up3 I c b d v) t = up3 (epS R zs I t) c b d v := by
  have tk : ∀ (p0 z : Nat) (I : Fi), tka R p0 z (up3 I c b d v) = up3 (tka R p0 z I) c b d v := by
    intro p0 z
    induction z with
    | zero => intro I; rfl
    | succ z ih =>
      intro I
      rw [tka, tka, ← ih]
      congr 1
      unfold ttI
      rw [up3_sw _ (fun z => h1 ⟨z.1.symm, z.2.2.symm⟩), up3_sw _ (fun z => h2 z.1.symm)]
  intro t
  induction t with
  | zero => rfl
  | succ t ih => rw [epS, epS, ih, tk]

theorem op_cancel (l : Launch) (D : va_G) (dA : Nat → ClassId) (base n ver : Nat) (ad : Fa) (I : Fi) (J : Fj) (R : Fr) (hS : SIM n ver I J R)  : BO l D dA base n ad I J R yX3_cancel cX3_cancel 1 (some .int) 4 yX4_cancel cX4_cancel 1 1 [] ver := by
  obtain ⟨rs, aq, zs, rw, ap, pk, hB, hP, h4⟩ := id hS
  obtain ⟨k1, k2, k3, k4, k5, k6, k7, hT, hG, hM, hcl, hdf, hfr⟩ := id hB
  have hn := hG.2.1
  have hP1 := pil_PL hP
  obtain ⟨s1, s2⟩ := cancel_sib hB hP
  have e1 : emS (up3 (epS R zs I 5) 11 0 0 0) 5 = up3 (emS (epS R zs I 5) 5) 11 0 0 0 := em_up _ _ _ _ _ (by decide) 5
  exact ⟨_, _, _, _, _, _, _, c_X3_cancel l D dA base n ad I J R hT hG zs hP1, (c_X4_cancel l D dA base n ad (epS R zs I 5) J R hT zs (fun q hq => ⟨by rw [ep4 _ _ _ _ _ _ (by omega) (by omega)]; exact (pil_HI hP q hq).1, (pil_HI hP q hq).2⟩)).cong rfl e1 rfl rfl, ⟨rs, aq, fun _ => 0, rw, ap, pk, sib_code s1 0, pil_code s2 0, rfl⟩⟩

/-! a key is laid upon a pile; the topmost goes on; it is taken away -/
def u1 {α : Type} (f : Nat → α) (p : Nat) (v : α) : Nat → α := fun q => if q = p then v else f q
def u2 {α : Type} (f : Nat → Nat → α) (p z : Nat) (v : α) : Nat → Nat → α := fun q j => if q = p ∧ j = z then v else f q j
theorem u1_s {α : Type} (f : Nat → α) (p : Nat) (v : α) : u1 f p v p = v := if_pos rfl
theorem u1_n {α : Type} (f : Nat → α) {p q : Nat} (v : α) (h : ¬ q = p) : u1 f p v q = f q := if_neg h
theorem u2_s {α : Type} (f : Nat → Nat → α) (p z : Nat) (v : α) : u2 f p z v p z = v := if_pos ⟨rfl, rfl⟩
theorem u2_n {α : Type} (f : Nat → Nat → α) {p z q j : Nat} (v : α) (h : ¬ (q = p ∧ j = z)) : u2 f p z v q j = f q j := if_neg h
theorem sw_r (I : Fi) (j : Nat) {c b d : Nat} (h : ¬ (c = 7 ∧ b = j)) : swI I j c b d = I c b d := by
  unfold swI
  rw [up3_n _ _ _ _ _ (fun z => h ⟨z.1, z.2.1⟩), up3_n _ _ _ _ _ (fun z => h ⟨z.1, z.2.1⟩), up3_n _ _ _ _ _ (fun z => h ⟨z.1, z.2.1⟩)]
theorem st_r (I : Fi) (j : Nat) {c b d : Nat} (h : ¬ (c = 7 ∧ b = j)) : stI I j c b d = I c b d := by
  unfold stI
  rw [up3_n _ _ _ _ _ (fun z => h ⟨z.1, z.2.1⟩), sw_r I j h]
theorem put_r (I : Fi) (p j z : Nat) {c b d : Nat} (h7 : ¬ (c = 7 ∧ b = j)) (h9 : ¬ (c = 9 ∧ b = p)) (h16 : ¬ (c = 4 ∧ d = 16 ∧ b = j)) : putI I p j z c b d = I c b d := by
  unfold putI
  rw [up3_n _ _ _ _ _ (fun z => h9 ⟨z.1, z.2.1⟩), up3_n _ _ _ _ _ (fun z => h16 ⟨z.1, z.2.2, z.2.1⟩), st_r I j h7]
theorem ly_r (I : Fi) (p j z : Nat) {c b d : Nat} (h37 : ¬ (c = 37 ∧ d = p)) (h38 : ¬ ((c = 38 ∨ c = 39 ∨ c = 41) ∧ d = 40 * p + z)) : lyI I p j z c b d = I c b d := by
  unfold lyI
  rw [up3_n _ _ _ _ _ (fun z => h37 ⟨z.1, z.2.2⟩), up3_n _ _ _ _ _ (fun z => h38 ⟨by omega, z.2.2⟩), up3_n _ _ _ _ _ (fun z => h38 ⟨by omega, z.2.2⟩), up3_n _ _ _ _ _ (fun z => h38 ⟨by omega, z.2.2⟩)]
theorem sib_fn {n ver : Nat} {rs aq zs : Nat → Nat} {rw ap pk : Nat → Nat → Nat} {I : Fi} {J : Fj} {R : Fr} (hB : SIB n ver rs aq rw ap I J R) (hP : PIL n rs aq rw zs pk I J R) {j : Nat} (hj : j < n) (hs : sure I j = false) : ∃ f, f < 6 ∧ I 4 j 1 = nI f := by
  rcases (hB.2.1 j hj).1 with h | h
  · have : sure I j = true := by unfold sure; exact decide_eq_true (Or.inl h)
    rw [hs] at this; cases this
  · exact h
theorem fls_0 {n ver : Nat} {rs aq zs : Nat → Nat} {rw ap pk : Nat → Nat → Nat} {I : Fi} {J : Fj} {R : Fr} (hB : SIB n ver rs aq rw ap I J R) (hP : PIL n rs aq rw zs pk I J R) {j f : Nat} (hj : j < n) (hf : f < 6) (e : I 4 j 1 = nI f) (tv : Nat → Int64) : (if ¬ I 4 j 5 = 0 ∨ (I 4 j 1 = 5 ∧ I 4 j 3 = 0) then (1 : Int32) else 0) = fls (I 4 j 5) f (rs j) 0 tv := by
  have hr := hB.2.2.2.2.1.1 j hj
  have h1 : I 4 j 1 = 5 ↔ f = 5 := by rw [e]; exact ⟨fun z => nI_inj (b := 5) (by omega) (by decide) z, fun z => by rw [z]; rfl⟩
  have h2 : I 4 j 3 = 0 ↔ rs j = 0 := by rw [hr.1]; exact ⟨fun z => nI_inj (b := 0) (by omega) (by decide) z, fun z => by rw [z]; rfl⟩
  unfold fls
  simp only [h1, h2]
  congr 1
  simp
theorem PE_new {n ver : Nat} {rs aq zs : Nat → Nat} {rw ap pk : Nat → Nat → Nat} {I : Fi} {J : Fj} {R : Fr} (hB : SIB n ver rs aq rw ap I J R) (hP : PIL n rs aq rw zs pk I J R) {p j z : Nat} {I' : Fi} {J' : Fj} {R' : Fr} (hj : j < n) (hs : sure I' j = false) (hs0 : sure I j = false) (hR : R' 10 p z = some j) (h38 : I' 38 0 (40 * p + z) = nI j) (h39 : I' 39 0 (40 * p + z) = 0) (h71 : I' 7 j 1 = 0) (h74 : I' 7 j 4 = if ¬ I 4 j 5 = 0 ∨ (I 4 j 1 = 5 ∧ I 4 j 3 = 0) then 1 else 0) (hJ : J' 7 j 3 = 0) (e1 : I' 4 j 1 = I 4 j 1) (e5 : I' 4 j 5 = I 4 j 5) (e10 : I' 4 j 10 = I 4 j 10) (hc : (I' 7 j 0 = 1 ∧ I' 41 0 (40 * p + z) = 0 ∧ ¬ I 4 j 10 = 0) ∨ (I' 7 j 0 = 0 ∧ I' 41 0 (40 * p + z) = 1)) : PE n rs aq rw I' J' R' p z j := by
  obtain ⟨f, hf, ef⟩ := sib_fn hB hP hj hs0
  refine ⟨hj, hs, hR, h38, 0, f, h71, h39, by rw [e1]; exact ef, hf, ?_⟩
  rcases hc with ⟨c1, c2, c3⟩ | ⟨c1, c2⟩
  · exact Or.inl ⟨c1, c2, by rw [e10]; exact c3, Nat.zero_le _⟩
  · refine Or.inr ⟨c1, c2, Nat.zero_le _, fun _ => 0, fun i hi => absurd hi (Nat.not_lt_zero _), hJ, ?_, fun _ i _ hi => absurd hi (by omega)⟩
    rw [h74, e5]
    exact fls_0 hB hP hj hf ef _
theorem lay_c {n ver : Nat} {rs aq zs : Nat → Nat} {rw ap pk : Nat → Nat → Nat} {I : Fi} {J : Fj} {R : Fr} (hB : SIB n ver rs aq rw ap I J R) (hP : PIL n rs aq rw zs pk I J R) {j : Nat} (hj : j < n) : ((if ¬ I 4 j 10 = 0 ∧ I 4 j 6 ≤ I 4 j 11 then (1 : Int32) else 0) = 1 ∧ (if I 36 0 j = 0 ∨ I 27 0 j < I 29 0 j then (1 : Int32) else 0) = 0 ∧ ¬ I 4 j 10 = 0) ∨ ((if ¬ I 4 j 10 = 0 ∧ I 4 j 6 ≤ I 4 j 11 then (1 : Int32) else 0) = 0 ∧ (if I 36 0 j = 0 ∨ I 27 0 j < I 29 0 j then (1 : Int32) else 0) = 1) := by
  have e10 := (hB.1 j hj).2.2.2.1
  obtain ⟨v1, v2, v3⟩ := hB.2.2.1.2.2.2 j hj
  have hv := hB.2.2.1.2.2.1
  rw [← e10]
  by_cases h10 : I 4 j 10 = 0
  · right
    rw [if_neg (fun z => z.1 h10), if_pos (Or.inl h10)]
    exact ⟨rfl, rfl⟩
  · obtain ⟨w1, v, w2, w3⟩ := v2 h10
    rw [← w1]
    have hle : I 4 j 6 ≤ I 4 j 11 ↔ ¬ I 4 j 11 < I 29 0 j := by
      rcases v1 with ⟨x1, x2⟩ | x
      · rw [x1, x2, w3]
        refine ⟨fun _ h => ?_, fun _ => ?_⟩
        · rw [Int32.lt_iff_toInt_lt, nI_toInt (by omega)] at h
          have h3 : (-1 : Int32).toInt = -1 := by decide
          omega
        · rw [Int32.le_iff_toInt_le, nI_toInt (by omega)]
          have h3 : (0 : Int32).toInt = 0 := by decide
          omega
      · rw [x]; exact Int32.not_lt.symm
    by_cases hl : I 4 j 11 < I 29 0 j
    · right
      rw [if_neg (fun z => hle.mp z.2 hl), if_pos (Or.inr hl)]
      exact ⟨rfl, rfl⟩
    · left
      rw [if_pos ⟨h10, hle.mpr hl⟩, if_neg (fun z => z.elim h10 hl)]
      exact ⟨rfl, rfl, h10⟩
theorem lay_sim {n ver : Nat} {rs aq zs : Nat → Nat} {rw ap pk : Nat → Nat → Nat} {I : Fi} {J : Fj} {R : Fr} (hB : SIB n ver rs aq rw ap I J R) (hP : PIL n rs aq rw zs pk I J R) {p j : Nat} (hp : p < 5) (hj : j < n) (hz : zs p < 40) (hs : sure I j = false) (hq : I 4 j 16 = 0) : SIB n ver rs aq rw ap (mix (putI I p j (zs p)) (lyI I p j (zs p))) (up3 J 7 j 3 0) (up3 R 10 p (zs p) (some j)) ∧ PIL n rs aq rw (u1 zs p (zs p + 1)) (u2 pk p (zs p) j) (mix (putI I p j (zs p)) (lyI I p j (zs p))) (up3 J 7 j 3 0) (up3 R 10 p (zs p) (some j)) := by
  obtain ⟨k1, k2, k3, k4, k5, k6, k7, a1, a2, a3, a4, a5, a6⟩ := id hB
  have ec : ∀ c b d, c < 11 → ¬ (c = 7 ∧ b = j) → ¬ (c = 9 ∧ b = p) → ¬ (c = 4 ∧ d = 16 ∧ b = j) → mix (putI I p j (zs p)) (lyI I p j (zs p)) c b d = I c b d := fun c b d hc h7 h9 h16 => by rw [mix_a _ _ hc, put_r I p j _ h7 h9 h16]
  have em : ∀ c b d, ¬ c < 11 → ¬ (c = 37 ∧ d = p) → ¬ ((c = 38 ∨ c = 39 ∨ c = 41) ∧ d = 40 * p + zs p) → mix (putI I p j (zs p)) (lyI I p j (zs p)) c b d = I c b d := fun c b d hc h7 h9 => by rw [mix_b _ _ hc, ly_r I p j _ h7 h9]
  have hno : ∀ q i, q < 5 → i < zs q → ¬ pk q i = j := by
    rcases hP.2.2.2 j hj with ⟨z, -⟩ | ⟨-, z⟩
    · rw [hq] at z; exact absurd z (by decide)
    · exact z
  have hsu : ∀ y, sure (mix (putI I p j (zs p)) (lyI I p j (zs p))) y = sure I y := fun y => by
    unfold sure
    rw [ec 4 y 1 (by decide) (by omega) (by omega) (by omega), ec 4 y 10 (by decide) (by omega) (by omega) (by omega), ec 4 y 11 (by decide) (by omega) (by omega) (by omega), ec 0 0 2 (by decide) (by omega) (by omega) (by omega)]
  constructor
  · refine sib_fr hB (fun c b d hp => ?_) (fun c b d hc => up3_c _ _ _ _ _ hc) (fun c b d hc => up3_c _ _ _ _ _ hc) (fun c i k t tt hi hr hsty => ?_) (fun c i hc hi q => ⟨?_, ?_, ?_⟩)
    · unfold PF at hp
      by_cases hc : c < 11
      · exact ec c b d hc (by omega) (by omega) (by omega)
      · exact em c b d hc (by omega) (by omega)
    · by_cases hx : c = 10 ∧ i = p ∧ k = zs p
      · obtain ⟨rfl, rfl, rfl⟩ := hx
        rw [up3_s] at hr
        have e1 : t = j := (Option.some.inj hr).symm
        have e2 : tt = 4 := by simp [sty] at hsty; omega
        subst e1; subst e2; exact hj
      · rw [up3_n _ _ _ _ _ hx] at hr; exact a4 c i k t tt hi hr hsty
    · rw [ec c i q (by omega) (by omega) (by omega) (by omega)]; exact (a5 c i (by omega) hi q).1
    · rw [up3_n _ _ _ _ _ (by omega)]; exact (a5 c i (by omega) hi q).2.1
    · rw [up3_n _ _ _ _ _ (by omega)]; exact (a5 c i (by omega) hi q).2.2
  · refine ⟨fun q hq => ?_, fun q i hq hi => ?_, fun q i q2 i2 hq hi hq2 hi2 he => ?_, fun k hk => ?_⟩
    · by_cases e : q = p
      · subst e
        rw [u1_s]
        exact ⟨by simp [mix, putI, up3], by simp [mix, lyI, up3], by omega⟩
      · rw [u1_n _ _ e, ec _ _ _ (by decide) (by omega) (by omega) (by omega), em _ _ _ (by decide) (by omega) (by omega)]; exact hP.1 q hq
    · by_cases e : q = p ∧ i = zs p
      · obtain ⟨rfl, rfl⟩ := e
        rw [u2_s]
        refine PE_new hB hP hj (by rw [hsu]; exact hs) hs (up3_s _ _ _ _ _) (by simp [mix, lyI, up3]) (by simp [mix, lyI, up3]) (by simp [mix, putI, stI, swI, up3]) (by simp [mix, putI, stI, swI, up3]) (up3_s _ _ _ _ _) (ec _ _ _ (by decide) (by omega) (by omega) (by omega)) (ec _ _ _ (by decide) (by omega) (by omega) (by omega)) (ec _ _ _ (by decide) (by omega) (by omega) (by omega)) ?_
        have t1 : mix (putI I q j (zs q)) (lyI I q j (zs q)) 7 j 0 = if ¬ I 4 j 10 = 0 ∧ I 4 j 6 ≤ I 4 j 11 then 1 else 0 := by simp [mix, putI, stI, up3]
        have t2 : mix (putI I q j (zs q)) (lyI I q j (zs q)) 41 0 (40 * q + zs q) = if I 36 0 j = 0 ∨ I 27 0 j < I 29 0 j then 1 else 0 := by simp [mix, lyI, up3]
        rw [t1, t2]
        exact lay_c hB hP hj
      · have hi' : i < zs q := by
          by_cases e2 : q = p
          · subst e2; rw [u1_s] at hi; omega
          · rw [u1_n _ _ e2] at hi; exact hi
        have hi4 : i < 40 := by have := (hP.1 q hq).2.2; omega
        have h0 := hP.2.1 q i hq hi'
        have hne := hno q i hq hi'
        rw [u2_n _ _ e]
        have hne2 : ¬ 40 * q + i = 40 * p + zs p := by omega
        exact PE_cong h0 ((k5.1 _ h0.1).2.2.1) (fun t ht => ((k5.1 _ h0.1).2.2.2 t ht).2.2) (up3_n _ _ _ _ _ (by omega)) (em _ _ _ (by decide) (by omega) (by omega)) (em _ _ _ (by decide) (by omega) (by omega)) (em _ _ _ (by decide) (by omega) (by omega)) (fun d _ => em _ _ _ (by decide) (by omega) (by omega)) (fun d => ec _ _ _ (by decide) (by omega) (by omega) (by omega)) (fun d => ec _ _ _ (by decide) (by omega) (by omega) (by omega)) (up3_n _ _ _ _ _ (by omega)) (ec _ _ _ (by decide) (by omega) (by omega) (by omega)) (ec _ _ _ (by decide) (by omega) (by omega) (by omega)) (ec _ _ _ (by decide) (by omega) (by omega) (by omega)) rfl (by rw [hsu]; exact h0.2.1) (fun y hy hsy => ⟨by rw [hsu]; exact hsy, ec _ _ _ (by decide) (by omega) (by omega) (by omega), up3_c _ _ _ _ _ (by decide)⟩)
    · have hr : ∀ q i, q < 5 → i < u1 zs p (zs p + 1) q → (q = p ∧ i = zs p) ∨ (¬ (q = p ∧ i = zs p) ∧ i < zs q) := fun q i hq hi => by
        by_cases e : q = p ∧ i = zs p
        · exact Or.inl e
        · refine Or.inr ⟨e, ?_⟩
          by_cases e2 : q = p
          · subst e2; rw [u1_s] at hi; omega
          · rw [u1_n _ _ e2] at hi; exact hi
      rcases hr q i hq hi with ⟨rfl, rfl⟩ | ⟨e1, h1⟩
      · rcases hr q2 i2 hq2 hi2 with ⟨rfl, rfl⟩ | ⟨e2, h2⟩
        · exact ⟨rfl, rfl⟩
        · rw [u2_s, u2_n _ _ e2] at he; exact absurd he.symm (hno q2 i2 hq2 h2)
      · rcases hr q2 i2 hq2 hi2 with ⟨rfl, rfl⟩ | ⟨e2, h2⟩
        · rw [u2_s, u2_n _ _ e1] at he; exact absurd he (hno q i hq h1)
        · rw [u2_n _ _ e1, u2_n _ _ e2] at he; exact hP.2.2.1 q i q2 i2 hq h1 hq2 h2 he
    · by_cases e : k = j
      · subst e
        left
        exact ⟨by simp [mix, putI, up3], p, zs p, hp, by rw [u1_s]; omega, u2_s _ _ _ _⟩
      · rw [ec _ _ _ (by decide) (by omega) (by omega) (by omega)]
        rcases hP.2.2.2 k hk with ⟨h1, q, i, hq, hi, he⟩ | ⟨h1, h2⟩
        · refine Or.inl ⟨h1, q, i, hq, ?_, ?_⟩
          · by_cases e2 : q = p
            · subst e2; rw [u1_s]; omega
            · rw [u1_n _ _ e2]; exact hi
          · rw [u2_n _ _ (fun z => by obtain ⟨rfl, rfl⟩ := z; omega)]; exact he
        · refine Or.inr ⟨h1, fun q i hq hi => ?_⟩
          by_cases e2 : q = p ∧ i = zs p
          · obtain ⟨rfl, rfl⟩ := e2; rw [u2_s]; exact fun z => e z.symm
          · rw [u2_n _ _ e2]
            refine h2 q i hq ?_
            by_cases e3 : q = p
            · subst e3; rw [u1_s] at hi; omega
            · rw [u1_n _ _ e3] at hi; exact hi
theorem top_sim {n ver : Nat} {rs aq zs : Nat → Nat} {rw ap pk : Nat → Nat → Nat} {I : Fi} {J : Fj} {R : Fr} (hB : SIB n ver rs aq rw ap I J R) (hP : PIL n rs aq rw zs pk I J R) {p z : Nat} (hp : p < 5) (hz : zs p = z + 1) {I' : Fi} {J' : Fj} (hI : ∀ c b d, ¬ (c = 7 ∧ b = pk p z) → ¬ (c = 8 ∧ b = pk p z) → ¬ ((c = 39 ∨ c = 41) ∧ d = 40 * p + z) → ¬ (c = 40 ∧ ∃ t, t < 8 ∧ d = 8 * (40 * p + z) + t) → I' c b d = I c b d) (hJ : ∀ c b d, ¬ (c = 7 ∧ b = pk p z) → J' c b d = J c b d) (hE : PE n rs aq rw I' J' R p z (pk p z)) : SIB n ver rs aq rw ap I' J' R ∧ PIL n rs aq rw zs pk I' J' R := by
  obtain ⟨k1, k2, k3, k4, k5, k6, k7, a1, a2, a3, a4, a5, a6⟩ := id hB
  have hlt := (hP.2.1 p z hp (by omega)).1
  have h40 := (hP.1 p hp).2.2
  have hsu : ∀ y, sure I' y = sure I y := fun y => by
    unfold sure
    rw [hI 4 y 1 (by omega) (by omega) (by omega) (by omega), hI 4 y 10 (by omega) (by omega) (by omega) (by omega), hI 4 y 11 (by omega) (by omega) (by omega) (by omega), hI 0 0 2 (by omega) (by omega) (by omega) (by omega)]
  constructor
  · refine sib_fr hB (fun c b d hp => ?_) (fun c b d hc => hJ c b d (by omega)) (fun c b d hc => rfl) a4 (fun c i hc hi q => ⟨?_, ?_⟩)
    · unfold PF at hp
      exact hI c b d (by omega) (by omega) (by omega) (by omega)
    · rw [hI c i q (by omega) (by omega) (by omega) (by omega)]; exact (a5 c i (by omega) hi q).1
    · rw [hJ c i q (by omega)]; exact (a5 c i (by omega) hi q).2
  · refine ⟨fun q hq => ?_, fun q i hq hi => ?_, hP.2.2.1, fun k hk => ?_⟩
    · rw [hI _ _ _ (by omega) (by omega) (by omega) (by omega), hI _ _ _ (by omega) (by omega) (by omega) (by omega)]; exact hP.1 q hq
    · by_cases e : q = p ∧ i = z
      · obtain ⟨rfl, rfl⟩ := e; exact hE
      · have h0 := hP.2.1 q i hq hi
        have hi4 : i < 40 := by have := (hP.1 q hq).2.2; omega
        have hne : ¬ pk q i = pk p z := fun he => e (hP.2.2.1 q i p z hq hi hp (by omega) he)
        have hne2 : ¬ 40 * q + i = 40 * p + z := by omega
        exact PE_cong h0 ((k5.1 _ h0.1).2.2.1) (fun t ht => ((k5.1 _ h0.1).2.2.2 t ht).2.2) rfl (hI _ _ _ (by omega) (by omega) (by omega) (by omega)) (hI _ _ _ (by omega) (by omega) (by omega) (by omega)) (hI _ _ _ (by omega) (by omega) (by omega) (by omega)) (fun d hd => hI _ _ _ (by omega) (by omega) (by omega) (by rintro ⟨-, t, ht, h⟩; omega)) (fun d => hI _ _ _ (by omega) (by omega) (by omega) (by omega)) (fun d => hI _ _ _ (by omega) (by omega) (by omega) (by omega)) (hJ _ _ _ (by omega)) (hI _ _ _ (by omega) (by omega) (by omega) (by omega)) (hI _ _ _ (by omega) (by omega) (by omega) (by omega)) (hI _ _ _ (by omega) (by omega) (by omega) (by omega)) rfl (by rw [hsu]; exact h0.2.1) (fun y hy hsy => ⟨by rw [hsu]; exact hsy, hI _ _ _ (by omega) (by omega) (by omega) (by omega), hJ _ _ _ (by omega)⟩)
    · rw [hI _ _ _ (by omega) (by omega) (by omega) (by omega)]; exact hP.2.2.2 k hk
theorem pop_sim {n ver : Nat} {rs aq zs : Nat → Nat} {rw ap pk : Nat → Nat → Nat} {I : Fi} {J : Fj} {R : Fr} (hB : SIB n ver rs aq rw ap I J R) (hP : PIL n rs aq rw zs pk I J R) {p z : Nat} (hp : p < 5) (hz : zs p = z + 1) {aq' : Nat → Nat} {I' : Fi} {J' : Fj} (haq : ∀ k, ¬ k = pk p z → aq' k = aq k) (h02 : I' 0 0 2 = I 0 0 2) (hI4 : ∀ b d, ¬ b = pk p z → I' 4 b d = I 4 b d) (hI7 : ∀ b d, ¬ b = pk p z → I' 7 b d = I 7 b d) (hI8 : ∀ b d, ¬ b = pk p z → I' 8 b d = I 8 b d) (hI9 : ∀ b, ¬ b = p → I' 9 b 1 = I 9 b 1) (hI37 : ∀ b, ¬ b = p → I' 37 0 b = I 37 0 b) (hI38 : ∀ d, I' 38 0 d = I 38 0 d) (hI39 : ∀ d, ¬ d = 40 * p + z → I' 39 0 d = I 39 0 d) (hI41 : ∀ d, ¬ d = 40 * p + z → I' 41 0 d = I 41 0 d) (hI40 : ∀ d, (∀ t, t < 8 → ¬ d = 8 * (40 * p + z) + t) → I' 40 0 d = I 40 0 d) (hJ : ∀ c b d, ¬ ((c = 4 ∨ c = 7) ∧ b = pk p z) → c < 11 → J' c b d = J c b d) (h9 : I' 9 p 1 = nI z) (h37 : I' 37 0 p = nI z) (h16 : I' 4 (pk p z) 16 = 0) : PIL n rs aq' rw (u1 zs p z) pk I' J' R := by
  obtain ⟨k1, k2, k3, k4, k5, k6, k7, a1, a2, a3, a4, a5, a6⟩ := id hB
  have htop := hP.2.1 p z hp (by omega)
  have h40 := (hP.1 p hp).2.2
  have hsu : ∀ y, ¬ y = pk p z → sure I' y = sure I y := fun y hy => by
    unfold sure
    rw [hI4 _ _ hy, hI4 _ _ hy, hI4 _ _ hy, h02]
  have hr : ∀ q i, i < u1 zs p z q → i < zs q ∧ ¬ (q = p ∧ i = z) := fun q i hi => by
    by_cases e2 : q = p
    · subst e2; rw [u1_s] at hi; omega
    · rw [u1_n _ _ e2] at hi; exact ⟨hi, fun z => e2 z.1⟩
  refine ⟨fun q hq => ?_, fun q i hq hi => ?_, fun q i q2 i2 hq hi hq2 hi2 he => ?_, fun k hk => ?_⟩
  · by_cases e : q = p
    · subst e; rw [u1_s]; exact ⟨h9, h37, by omega⟩
    · rw [u1_n _ _ e, hI9 _ e, hI37 _ e]; exact hP.1 q hq
  · obtain ⟨hi', e⟩ := hr q i hi
    have h0 := hP.2.1 q i hq hi'
    have hi4 : i < 40 := by have := (hP.1 q hq).2.2; omega
    have hne : ¬ pk q i = pk p z := fun he => e (hP.2.2.1 q i p z hq hi' hp (by omega) he)
    have hne2 : ¬ 40 * q + i = 40 * p + z := by omega
    refine PE_cong h0 ((k5.1 _ h0.1).2.2.1) (fun t ht => ((k5.1 _ h0.1).2.2.2 t ht).2.2) rfl (hI38 _) (hI39 _ hne2) (hI41 _ hne2) (fun d hd => hI40 _ (fun t ht h => by omega)) (fun d => hI7 _ _ hne) (fun d => hI8 _ _ hne) (hJ _ _ _ (by omega) (by decide)) (hI4 _ _ hne) (hI4 _ _ hne) (hI4 _ _ hne) (haq _ hne) (by rw [hsu _ hne]; exact h0.2.1) (fun y hy hsy => ?_)
    have hy2 : ¬ y = pk p z := fun e => by rw [e, htop.2.1] at hsy; cases hsy
    exact ⟨by rw [hsu _ hy2]; exact hsy, hI4 _ _ hy2, hJ _ _ _ (by omega) (by decide)⟩
  · exact hP.2.2.1 q i q2 i2 hq (hr q i hi).1 hq2 (hr q2 i2 hi2).1 he
  · by_cases e : k = pk p z
    · subst e
      exact Or.inr ⟨h16, fun q i hq hi he => (hr q i hi).2 (hP.2.2.1 q i p z hq (hr q i hi).1 hp (by omega) he)⟩
    · rw [hI4 _ _ e]
      rcases hP.2.2.2 k hk with ⟨h1, q, i, hq, hi, he⟩ | ⟨h1, h2⟩
      · refine Or.inl ⟨h1, q, i, hq, ?_, he⟩
        by_cases e2 : q = p
        · subst e2; rw [u1_s]
          have : ¬ i = z := fun z => by subst z; exact e he.symm
          omega
        · rw [u1_n _ _ e2]; exact hi
      · exact Or.inr ⟨h1, fun q i hq hi => h2 q i hq (hr q i hi).1⟩

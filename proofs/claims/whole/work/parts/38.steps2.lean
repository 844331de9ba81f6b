/-! one step of a pile, in both -/
theorem cms_c {sp : Int32} {f a r : Nat} {tv tw : Nat → Int64} (h : ∀ i, i < a → tv i = tw i) : cms sp f a r tv = cms sp f a r tw := by
  rcases Nat.eq_zero_or_pos a with rfl | ha
  · unfold cms; simp
  · unfold cms; rw [h (a - 1) (by omega), h 0 (by omega)]
theorem oub_c {f : Nat} {tv tw : Nat → Int64} {v : Int64} : ∀ t, (∀ i, i < t + 1 → tv i = tw i) → oub f tv v t = oub f tw v t
  | 0, _ => rfl
  | t + 1, h => by rw [oub, oub, oub_c t (fun i hi => h i (by omega)), h (t + 1) (by omega)]
theorem ocm_c {f a : Nat} {tv tw : Nat → Int64} (h : ∀ i, i < a → tv i = tw i) : ocm f a tv = ocm f a tw := by
  unfold ocm
  rcases Nat.eq_zero_or_pos a with rfl | ha
  · rfl
  · have e : oc0 f a tv = oc0 f a tw := by unfold oc0; rw [h (a - 1) (by omega), h 0 (by omega)]
    rw [e, oub_c (a - 1) (fun i hi => h i (by omega))]
theorem rmd_ix (v : Int64) (q : Nat) (hq : q < 8) (h0 : 0 < q) : ∃ m, m < q ∧ rmd v q = nI m := by
  obtain ⟨M, e1, e2, e3, -, -⟩ := rem_small v q hq h0
  have hm32 : (v - v / lN q * lN q).toInt32.toInt = M := by
    rw [Int64.toInt_toInt32, e1]
    exact bmod32 M (by omega) (by omega)
  unfold rmd
  by_cases hM : M < 0
  · rw [if_pos (by rw [Int32.lt_iff_toInt_lt, hm32, Int32.toInt_zero]; exact hM)]
    refine ⟨(M + q).toNat, by omega, ?_⟩
    apply Int32.toInt_inj.mp
    rw [Int32.toInt_add, hm32, nI_toInt (by omega), nI_toInt (by omega), bmod32 _ (by omega) (by omega)]
    omega
  · rw [if_neg (by rw [Int32.lt_iff_toInt_lt, hm32, Int32.toInt_zero]; exact hM)]
    refine ⟨M.toNat, by omega, ?_⟩
    apply Int32.toInt_inj.mp
    rw [hm32, nI_toInt (by omega)]
    omega
theorem cms_pl (sp : Int32) (f a r : Nat) (tv : Nat → Int64) (hr8 : r ≤ 8) : cms sp f a r tv = -2 ∨ cms sp f a r tv = -1 ∨ ∃ pl, pl < r ∧ a < r ∧ cms sp f a r tv = nI pl := by
  unfold cms
  split
  · exact Or.inl rfl
  split
  · exact Or.inr (Or.inl rfl)
  split
  · exact Or.inl rfl
  split
  · split
    · exact Or.inr (Or.inr ⟨a, ‹_›, ‹_›, rfl⟩)
    · exact Or.inr (Or.inl rfl)
  split
  · rename_i h
    obtain ⟨m, h1, h2⟩ := rmd_ix (tv 0) (r - 1) (by omega) (by omega)
    refine Or.inr (Or.inr ⟨1 + m, by omega, by omega, ?_⟩)
    rw [h2, Nat.add_comm, ← nI_1, Int32.add_comm]
  · exact Or.inr (Or.inl rfl)
/-- what is left to do -/
def phk (I : Fi) (k : Nat) : Nat := if sure I k = true then 0 else if I 4 k 16 = 0 then 30 else if I 7 k 0 = 0 then 10 - (I 7 k 1).toInt.toNat else 20 - (I 7 k 1).toInt.toNat
def psum (f : Nat → Nat) : Nat → Nat
  | 0 => 0
  | n + 1 => psum f n + f n
theorem psum_le {f g : Nat → Nat} : ∀ n, (∀ k, k < n → f k ≤ g k) → psum f n ≤ psum g n
  | 0, _ => Nat.le_refl _
  | n + 1, h => Nat.add_le_add (psum_le n (fun k hk => h k (by omega))) (h n (by omega))
theorem psum_lt {f g : Nat → Nat} : ∀ n i, i < n → (∀ k, k < n → ¬ k = i → f k = g k) → f i < g i → psum f n < psum g n
  | 0, i, hi, _, _ => absurd hi (Nat.not_lt_zero _)
  | n + 1, i, hi, h, hl => by
    rw [psum, psum]
    by_cases e : i = n
    · subst e
      have := psum_le (f := f) (g := g) i (fun k hk => Nat.le_of_eq (h k (by omega) (by omega)))
      omega
    · have := psum_lt n i (by omega) (fun k hk hne => h k (by omega) hne) hl
      have := h n (by omega) (by omega)
      omega
theorem phk_n {I I' : Fi} {k : Nat} (h4 : ∀ d, I' 4 k d = I 4 k d) (h7 : ∀ d, I' 7 k d = I 7 k d) (h0 : I' 0 0 2 = I 0 0 2) : phk I' k = phk I k := by
  unfold phk sure
  rw [h4, h4, h4, h4, h7, h7, h0]
theorem phk_c {I : Fi} {k a : Nat} (hs : sure I k = false) (h16 : I 4 k 16 = 1) (h0 : I 7 k 0 = 1) (h1 : I 7 k 1 = nI a) (ha : a ≤ 8) : phk I k = 20 - a := by
  unfold phk
  rw [if_neg (by rw [hs]; decide), if_neg (by rw [h16]; decide), if_neg (by rw [h0]; decide), h1, nI_toInt (by omega)]
  rfl
theorem phk_w {I : Fi} {k a : Nat} (hs : sure I k = false) (h16 : I 4 k 16 = 1) (h0 : I 7 k 0 = 0) (h1 : I 7 k 1 = nI a) (ha : a ≤ 8) : phk I k = 10 - a := by
  unfold phk
  rw [if_neg (by rw [hs]; decide), if_neg (by rw [h16]; decide), if_pos h0, h1, nI_toInt (by omega)]
  rfl
theorem phk_s {I : Fi} {k : Nat} (hs : sure I k = true) : phk I k = 0 := by
  unfold phk; rw [if_pos hs]
theorem phk_0 {I : Fi} {k : Nat} (hs : sure I k = false) (h16 : I 4 k 16 = 0) : phk I k = 30 := by
  unfold phk; rw [if_neg (by rw [hs]; decide), if_pos h16]
def GOc (l : Launch) (D : va_G) (dA : Nat → ClassId) (base n : Nat) (ad : Fa) (p : Nat) (x : Int32) (I : Fi) (J : Fj) (R : Fr) (I' : Fi) (J' : Fj) (R' : Fr) : Prop := ∀ (Im : Fi) (Jm : Fj), CT l D dA base yX3_goOn cX3_goOn 3 (some .int) 5 0 0 [.ref (ad 0 0), .ref (ad 9 p)] ad (Nn n) (mix I Im) (mix J Jm) R (po (some (.int x)) ad (Nn n) (mix I' Im) (mix J' Jm) R')
def GOm (l : Launch) (D : va_G) (dA : Nat → ClassId) (base n : Nat) (ad : Fa) (p : Nat) (x : Int32) (I : Fi) (J : Fj) (I' : Fi) (J' : Fj) : Prop := ∀ (Ic : Fi) (Jc : Fj) (Rc : Fr), ST n Rc → CT l D dA base yX4_go cX4_go 5 (some .int) 3 0 0 [.ref (ad 11 0), .int (nI p)] ad (Nn n) (mix Ic I) (mix Jc J) Rc (po (some (.int x)) ad (Nn n) (mix Ic I') (mix Jc J') Rc)
/-- a step that is no waiting -/
def GOX (l : Launch) (D : va_G) (dA : Nat → ClassId) (base n ver : Nat) (ad : Fa) (rs : Nat → Nat) (rw : Nat → Nat → Nat) (zs : Nat → Nat) (p : Nat) (I : Fi) (J : Fj) (R : Fr) : Prop := ∃ (x : Int32) (aq' zs' : Nat → Nat) (ap' pk' : Nat → Nat → Nat) (I' : Fi) (J' : Fj) (R' : Fr), ¬ x = 3 ∧ SIB n ver rs aq' rw ap' I' J' R' ∧ PIL n rs aq' rw zs' pk' I' J' R' ∧ (∀ q, ¬ q = p → zs' q = zs q) ∧ psum (phk I') n < psum (phk I) n ∧ GOc l D dA base n ad p x I J R I' J' R' ∧ GOm l D dA base n ad p x I J I' J'
theorem go_lay (l : Launch) (D : va_G) (dA : Nat → ClassId) (base : Nat) (ad : Fa) {n ver : Nat} {rs aq zs : Nat → Nat} {rw ap pk : Nat → Nat → Nat} {I : Fi} {J : Fj} {R : Fr} (hB : SIB n ver rs aq rw ap I J R) (hP : PIL n rs aq rw zs pk I J R) {p j : Nat} (hp : p < 5) (hj : j < n) (hz : zs p < 40) (hs : sure I j = false) (hq : I 4 j 16 = 0) (hc : ∀ (Im : Fi) (Jm : Fj), CT l D dA base yX3_goOn cX3_goOn 3 (some .int) 5 0 0 [.ref (ad 0 0), .ref (ad 9 p)] ad (Nn n) (mix I Im) (mix J Jm) R (po (some (.int 1)) ad (Nn n) (putI (mix I Im) p j (zs p)) (up3 (mix J Jm) 7 j 3 0) (up3 R 10 p (zs p) (some j)))) (hm : ∀ (Ic : Fi) (Jc : Fj) (Rc : Fr), ST n Rc → CT l D dA base yX4_go cX4_go 5 (some .int) 3 0 0 [.ref (ad 11 0), .int (nI p)] ad (Nn n) (mix Ic I) (mix Jc J) Rc (po (some (.int 1)) ad (Nn n) (lyI (mix Ic I) p j (zs p)) (mix Jc J) Rc)) : GOX l D dA base n ver ad rs rw zs p I J R := by
  obtain ⟨s1, s2⟩ := lay_sim hB hP hp hj hz hs hq
  refine ⟨1, aq, _, ap, _, _, _, _, by decide, s1, s2, fun q hq => u1_n _ _ hq, ?_, fun Im Jm => (hc Im Jm).cong rfl (by rw [mx_put, mix_l]) (by rw [up_ma _ _ (by decide)]) rfl, fun Ic Jc Rc hR => (hm Ic Jc Rc hR).cong rfl (by rw [mx_ly, mix_r]) ?_ rfl⟩
  · refine psum_lt n j hj (fun k hk hne => ?_) ?_
    · refine phk_n (fun d => ?_) (fun d => ?_) ?_
      · rw [mix_a _ _ (by decide), put_r _ _ _ _ (by omega) (by omega) (by omega)]
      · rw [mix_a _ _ (by decide), put_r _ _ _ _ (by omega) (by omega) (by omega)]
      · rw [mix_a _ _ (by decide), put_r _ _ _ _ (by omega) (by omega) (by omega)]
    · rw [phk_0 hs hq]
      have e16 : mix (putI I p j (zs p)) (lyI I p j (zs p)) 4 j 16 = 1 := by simp [mix, putI, up3]
      have es : sure (mix (putI I p j (zs p)) (lyI I p j (zs p))) j = false := by
        rw [mx_sure]
        unfold sure
        rw [put_r _ _ _ _ (by omega) (by omega) (by omega), put_r _ _ _ _ (by omega) (by omega) (by omega), put_r _ _ _ _ (by omega) (by omega) (by omega), put_r _ _ _ _ (by omega) (by omega) (by omega)]
        exact hs
      unfold phk
      rw [if_neg (by rw [es]; decide), if_neg (by rw [e16]; decide)]
      split <;> omega
  · funext c b d
    unfold mix
    split
    · rfl
    · rw [up3_c _ _ _ _ _ (by omega)]

/-! asks -/
/-- both answer alike, and the relation holds behind them, whatever the second leaves -/
def BOs (l : Launch) (D : va_G) (dA : Nat → ClassId) (base n : Nat) (ad : Fa) (I : Fi) (J : Fj) (R : Fr) (yc : MethodName) (cc : ByteArray) (mlc : Nat) (rt : Option FieldType) (dc : Nat) (ym : MethodName) (cm : ByteArray) (mlm dm : Nat) (as : List Value) (ver2 : Nat) : Prop :=
  ∃ (x : Int32) (I1 : Fi) (J1 : Fj) (R1 : Fr), CT l D dA base yc cc mlc rt dc 0 0 (.ref (ad 0 0) :: as) ad (Nn n) I J R (po (some (.int x)) ad (Nn n) I1 J1 R1) ∧ CT l D dA base ym cm mlm rt dm 0 0 (.ref (ad 11 0) :: as) ad (Nn n) I1 J1 R1 (fun r a N2 I2 J2 R2 => r = some (.int x) ∧ a = ad ∧ N2 = Nn n ∧ SIM n ver2 I2 J2 R2)
theorem BO.s {l : Launch} {D : va_G} {dA : Nat → ClassId} {base n : Nat} {ad : Fa} {I : Fi} {J : Fj} {R : Fr} {yc : MethodName} {cc : ByteArray} {mlc : Nat} {rt : Option FieldType} {dc : Nat} {ym : MethodName} {cm : ByteArray} {mlm dm : Nat} {as : List Value} {ver2 : Nat} (h : BO l D dA base n ad I J R yc cc mlc rt dc ym cm mlm dm as ver2) : BOs l D dA base n ad I J R yc cc mlc rt dc ym cm mlm dm as ver2 := by
  obtain ⟨x, I1, J1, R1, I2, J2, R2, h1, h2, h3⟩ := h
  refine ⟨x, I1, J1, R1, h1, h2.mono ?_⟩
  rintro r a N i j k ⟨rfl, rfl, rfl, rfl, rfl, rfl⟩
  exact ⟨rfl, rfl, rfl, h3⟩
theorem sib_RW {n ver : Nat} {rs aq zs : Nat → Nat} {rw ap pk : Nat → Nat → Nat} {I : Fi} {J : Fj} {R : Fr} (hB : SIB n ver rs aq rw ap I J R) (hP : PIL n rs aq rw zs pk I J R) : RW n I R rs ∧ MRW n I rs rw := by
  have h5 := hB.2.2.2.2.1.1
  exact ⟨fun a ha => ⟨(h5 a ha).1, (h5 a ha).2.2.1, fun k hk => ⟨rw a k, ((h5 a ha).2.2.2 k hk).1, ((h5 a ha).2.2.2 k hk).2.2⟩⟩, fun a ha => ⟨(h5 a ha).2.1, (h5 a ha).2.2.1, fun k hk => ((h5 a ha).2.2.2 k hk).2⟩⟩
theorem sib_nxt {n ver : Nat} {rs aq zs : Nat → Nat} {rw ap pk : Nat → Nat → Nat} {I : Fi} {J : Fj} {R : Fr} (hB : SIB n ver rs aq rw ap I J R) (hP : PIL n rs aq rw zs pk I J R) {k : Nat} (hk : k < n) : NXT n rs rw k (fun a => ftr R J a k (rs a) (rs a)) := fun a ha hc hne => by
  have h5 := hB.2.2.2.2.1.1
  have hn := hB.2.2.2.2.2.2.2.2.1.2.1
  rcases hc.inv with e | ⟨-, i, hi, h⟩
  · exact absurd e hne
  · obtain ⟨i0, y1, y2, y3, y4, y5⟩ := ftr_ex (n := n) (J := J) (k := k) (rw := rw) (fun i hi => ((h5 a ha).2.2.2 i hi).1) (fun i hi => hB.2.2.2.2.2.1.1 _ _ ((h5 a ha).2.2.2 i hi).2.2 (by omega)) (rs a) (Nat.le_refl _) ⟨i, by omega, hi, h⟩
    exact ⟨i0, y2, y3, y4, fun i2 h2 => y5 i2 (by omega) h2⟩
/-- nothing of the piles is touched -/
theorem pil_eq {n : Nat} {rs rs' aq zs : Nat → Nat} {rw pk : Nat → Nat → Nat} {I I' : Fi} {J : Fj} {R : Fr} (hP : PIL n rs aq rw zs pk I J R) (hI : ∀ c b d, (c = 4 ∨ c = 7 ∨ c = 8 ∨ c = 9 ∨ c = 37 ∨ c = 38 ∨ c = 39 ∨ c = 40 ∨ c = 41 ∨ (c = 0 ∧ d = 2)) → I' c b d = I c b d) : PIL n rs aq rw zs pk I' J R := by
  have hsu : ∀ k, sure I' k = sure I k := fun k => sure_c (fun d => hI _ _ _ (by omega)) (hI _ _ _ (by omega))
  obtain ⟨h1, h2, h3, h4⟩ := hP
  refine ⟨fun q hq => ?_, fun q j hq hj => ?_, h3, fun k hk => ?_⟩
  · rw [hI _ _ _ (by omega), hI _ _ _ (by omega)]; exact h1 q hq
  · obtain ⟨b1, b2, b3, b4, a, f, b5, b6, b7, b8, b9⟩ := h2 q j hq hj
    refine ⟨b1, by rw [hsu]; exact b2, b3, by rw [hI _ _ _ (by omega)]; exact b4, a, f, by rw [hI _ _ _ (by omega)]; exact b5, by rw [hI _ _ _ (by omega)]; exact b6, by rw [hI _ _ _ (by omega)]; exact b7, b8, ?_⟩
    rcases b9 with ⟨c1, c2, c3, c4⟩ | ⟨c1, c2, c3, tp, c4, c5, c6, c7⟩
    · exact Or.inl ⟨by rw [hI _ _ _ (by omega)]; exact c1, by rw [hI _ _ _ (by omega)]; exact c2, by rw [hI _ _ _ (by omega)]; exact c3, c4⟩
    · refine Or.inr ⟨by rw [hI _ _ _ (by omega)]; exact c1, by rw [hI _ _ _ (by omega)]; exact c2, c3, tp, fun i hi => ?_, c5, by rw [hI _ _ _ (by omega), hI _ _ _ (by omega)]; exact c6, c7⟩
      rw [hI _ _ _ (by omega), hI _ _ _ (by omega), hI 4 _ _ (by omega), hsu]; exact c4 i hi
  · rw [hI _ _ _ (by omega)]; exact h4 k hk
theorem sib_ring {n ver : Nat} {rs aq : Nat → Nat} {rw ap : Nat → Nat → Nat} {I I' : Fi} {J : Fj} {R : Fr} (h : SIB n ver rs aq rw ap I J R) (hI : ∀ c b d, ¬ c = 3 → ¬ (c = 0 ∧ d = 5) → ¬ c = 42 → ¬ (c = 11 ∧ (d = 0 ∨ d = 23)) → ¬ c = 44 → I' c b d = I c b d) (hg : RNG I') : SIB n ver rs aq rw ap I' J R := by
  obtain ⟨h1, h2, h3, h4, h5, h6, h7, a1, a2, a3, a4, a5, a6⟩ := h
  have e4 : ∀ b d, I' 4 b d = I 4 b d := fun b d => hI _ _ _ (by omega) (by omega) (by omega) (by omega) (by omega)
  have em : ∀ c d, (c = 23 ∨ c = 24 ∨ c = 25 ∨ c = 26 ∨ c = 27 ∨ c = 28 ∨ c = 29 ∨ c = 30 ∨ c = 31 ∨ c = 32 ∨ c = 33 ∨ c = 35 ∨ c = 36) → I' c 0 d = I c 0 d := fun c d hc => hI _ _ _ (by omega) (by omega) (by omega) (by omega) (by omega)
  have es : ∀ c b d, (c = 5 ∨ c = 6 ∨ c = 7 ∨ c = 8) → I' c b d = I c b d := fun c b d hc => hI _ _ _ (by omega) (by omega) (by omega) (by omega) (by omega)
  refine ⟨fun k hk => ?_, fun k hk => ?_, ⟨?_, ?_, h3.2.2.1, fun k hk => ?_⟩, fun k hk => ?_, ⟨fun k hk => ?_, h5.2⟩, h6, hg, a1, ?_, ?_, a4, fun c i hc hi q => ?_, fun k hk => ?_⟩
  · simp only [e4]
    rw [em 23 k (by omega), em 35 k (by omega), em 26 k (by omega), em 36 k (by omega), em 32 k (by omega), em 33 k (by omega)]; exact h1 k hk
  · simp only [e4]; exact h2 k hk
  · rw [hI _ _ _ (by omega) (by omega) (by omega) (by omega) (by omega)]; exact h3.1
  · rw [hI _ _ _ (by omega) (by omega) (by omega) (by omega) (by omega)]; exact h3.2.1
  · simp only [e4]
    rw [em 29 k (by omega), em 27 k (by omega), em 28 k (by omega)]; exact h3.2.2.2 k hk
  · obtain ⟨b1, b2, b3, b4⟩ := h4 k hk
    rw [e4, em 30 k (by omega)]
    refine ⟨b1, b2, b3, fun i hi => ?_⟩
    rw [es 6 k i (by omega), em 31 _ (by omega)]; exact b4 i hi
  · obtain ⟨b1, b2, b3, b4⟩ := h5.1 k hk
    rw [e4, em 24 k (by omega)]
    refine ⟨b1, b2, b3, fun i hi => ?_⟩
    rw [em 25 _ (by omega)]; exact b4 i hi
  · exact ⟨by rw [hI _ _ _ (by omega) (by omega) (by omega) (by omega) (by omega)]; exact a2.1, a2.2.1, a2.2.2.1, a2.2.2.2.1, fun k hk => by rw [e4]; exact a2.2.2.2.2 k hk⟩
  · exact ⟨by rw [hI _ _ _ (by omega) (by omega) (by omega) (by omega) (by omega)]; exact a3.1, a3.2⟩
  · refine ⟨?_, (a5 c i hc hi q).2⟩
    rw [hI _ _ _ (by omega) (by omega) (by omega) (by omega) (by omega)]; exact (a5 c i hc hi q).1
  · rw [em 24 k (by omega), em 26 k (by omega), em 30 k (by omega), em 32 k (by omega), em 33 k (by omega), em 35 k (by omega), em 36 k (by omega)]; exact a6 k hk
theorem sib_asks {n ver : Nat} {rs aq : Nat → Nat} {rw ap : Nat → Nat → Nat} {I I' : Fi} {J : Fj} {R : Fr} (h : SIB n ver rs aq rw ap I J R) (hv : ver < 1000) {k j : Nat} (hk : k < n) (hj : j < n) (hf : ¬ I 4 k 1 = -1) (hr : rs k < 8) (hc : ¬ Rch n rs rw j k) (hI : ∀ c b d, ¬ (c = 4 ∧ b = k ∧ (d = 3 ∨ d = 6)) → ¬ (c = 0 ∧ d = 2) → ¬ (c = 11 ∧ (d = 0 ∨ d = 1)) → ¬ ((c = 24 ∨ c = 29) ∧ d = k) → ¬ (c = 25 ∧ d = 8 * k + rs k) → ¬ c = 44 → I' c b d = I c b d) (e43 : I' 4 k 3 = nI (rs k + 1)) (e46 : I' 4 k 6 = nI (ver + 1)) (e02 : I' 0 0 2 = nI (ver + 1)) (e11 : I' 11 0 1 = nI (ver + 1)) (e24 : I' 24 0 k = nI (rs k + 1)) (e25 : I' 25 0 (8 * k + rs k) = nI j) (e29 : I' 29 0 k = nI (ver + 1)) : SIB n (ver + 1) (u1 rs k (rs k + 1)) aq (u2 rw k (rs k) j) ap I' (spr k j J n) (up3 R 5 k (rs k) (some j)) := by
  obtain ⟨h1, h2, h3, h4, h5, h6, h7, a1, a2, a3, a4, a5, a6⟩ := h
  have hn := a2.2.1
  have e4 : ∀ b d, ¬ d = 3 → ¬ d = 6 → I' 4 b d = I 4 b d := fun b d x y => hI _ _ _ (by omega) (by omega) (by omega) (by omega) (by omega) (by omega)
  have e4n : ∀ b d, ¬ b = k → I' 4 b d = I 4 b d := fun b d x => hI _ _ _ (by omega) (by omega) (by omega) (by omega) (by omega) (by omega)
  have em : ∀ c d, (c = 23 ∨ c = 26 ∨ c = 27 ∨ c = 28 ∨ c = 30 ∨ c = 31 ∨ c = 32 ∨ c = 33 ∨ c = 35 ∨ c = 36) → I' c 0 d = I c 0 d := fun c d hc => hI _ _ _ (by omega) (by omega) (by omega) (by omega) (by omega) (by omega)
  have en : ∀ c d, (c = 24 ∨ c = 29) → ¬ d = k → I' c 0 d = I c 0 d := fun c d hc hd => hI _ _ _ (by omega) (by omega) (by omega) (by omega) (by omega) (by omega)
  have sj : ∀ c b, spr k j J n c b 8 = J c b 8 := fun c b => spr_o _ _ _ (by omega) n
  have hbj : bit (J 4 j 4) k = false := by
    have := h6.1 j k hj (by omega)
    cases hb : bit (J 4 j 4) k with
    | false => rfl
    | true => exact absurd (this.mp hb) hc
  have hle : ∀ q, rs q ≤ u1 rs k (rs k + 1) q := fun q => by
    by_cases e : q = k
    · subst e; rw [u1_s]; omega
    · rw [u1_n _ _ e]; exact Nat.le_refl _
  refine ⟨fun q hq => ?_, fun q hq => ?_, ⟨e02, e11, by omega, fun q hq => ?_⟩, fun q hq => ?_, ⟨fun q hq => ?_, fun q hq => ?_⟩, ⟨fun a b ha hb => ?_, fun x i hx hi hR => ?_⟩, ?_, a1.up rfl, ?_, ?_, ?_, fun c i hcc hi q => ⟨?_, ?_, ?_⟩, fun q hq => ?_⟩
  · rw [e4 q 1 (by omega) (by omega), e4 q 5 (by omega) (by omega), e4 q 7 (by omega) (by omega), e4 q 10 (by omega) (by omega), e4 q 14 (by omega) (by omega), e4 q 15 (by omega) (by omega), em 23 q (by omega), em 35 q (by omega), em 26 q (by omega), em 36 q (by omega), em 32 q (by omega), em 33 q (by omega), sj, spr_o _ _ _ (by omega) n]; exact h1 q hq
  · rw [e4 q 1 (by omega) (by omega), e4 q 5 (by omega) (by omega), e4 q 7 (by omega) (by omega), e4 q 10 (by omega) (by omega), sj]
    refine ⟨(h2 q hq).1, (h2 q hq).2.1, (h2 q hq).2.2.1, fun z => ?_, (h2 q hq).2.2.2.2⟩
    rw [u1_n _ _ (fun e => hf (by rw [← e]; exact z))]; exact (h2 q hq).2.2.2.1 z
  · obtain ⟨b1, b2, b3⟩ := h3.2.2.2 q hq
    rw [e4 q 10 (by omega) (by omega), e4 q 11 (by omega) (by omega), e4 q 1 (by omega) (by omega), e4 q 9 (by omega) (by omega), em 27 q (by omega), em 28 q (by omega)]
    refine ⟨?_, fun hh => ?_, b3⟩
    · by_cases e : q = k
      · subst e; right; rw [e29, e46]
      · rw [en 29 q (by omega) e, e4n q 6 e]; exact b1
    · obtain ⟨c1, v, c2, c3⟩ := b2 hh
      exact ⟨c1, v, by omega, c3⟩
  · obtain ⟨b1, b2, b3, b4⟩ := h4 q hq
    rw [e4 q 13 (by omega) (by omega), em 30 q (by omega)]
    refine ⟨b1, b2, b3, fun i hi => ?_⟩
    rw [hI 6 q i (by omega) (by omega) (by omega) (by omega) (by omega) (by omega), em 31 _ (by omega)]
    exact ⟨(b4 i hi).1, (b4 i hi).2.1, Nat.lt_of_lt_of_le (b4 i hi).2.2 (hle q)⟩
  · obtain ⟨b1, b2, b3, b4⟩ := h5.1 q hq
    by_cases e : q = k
    · subst e
      rw [u1_s]
      refine ⟨e43, e24, by omega, fun i hi => ?_⟩
      by_cases e2 : i = rs q
      · subst e2; rw [u2_s, up3_s]; exact ⟨rfl, e25, hj⟩
      · rw [u2_n _ _ (fun z => e2 z.2), up3_k _ _ _ _ _ e2, hI _ _ _ (by omega) (by omega) (by omega) (by omega) (by omega) (by omega)]; exact b4 i (by omega)
    · rw [u1_n _ _ e, e4n q 3 e, en 24 q (by omega) e]
      refine ⟨b1, b2, b3, fun i hi => ?_⟩
      rw [u2_n _ _ (fun z => e z.1), up3_i _ _ _ _ _ e, hI _ _ _ (by omega) (by omega) (by omega) (by omega) (by omega) (by omega)]; exact b4 i hi
  · rw [u1_n _ _ (by omega)]; exact h5.2 q hq
  · rw [Rch.more hk hc, (spr_4 k j J hbj n).1 a ha]
    have t1 := h6.1 a k ha (by omega)
    have t2 := h6.1 a b ha hb
    have t3 := h6.1 j b hj hb
    by_cases hak : bit (J 4 a 4) k = true
    · rw [if_pos hak, bit_or, t2, t3]
      exact ⟨fun z => z.imp id (fun w => ⟨t1.mp hak, w⟩), fun z => z.imp id (fun w => w.2)⟩
    · rw [if_neg hak, t2]
      exact ⟨Or.inl, fun z => z.elim id (fun w => absurd (t1.mpr w.1) hak)⟩
  · rw [Rch.more hk hc] at hR
    by_cases e : x = k ∧ i = rs k
    · obtain ⟨rfl, rfl⟩ := e
      rw [u2_s] at hR
      exact hc (hR.elim id (fun w => w.1))
    · have hi' : i < rs x := by
        by_cases e2 : x = k
        · subst e2; rw [u1_s] at hi; omega
        · rw [u1_n _ _ e2] at hi; exact hi
      rw [u2_n _ _ e] at hR
      rcases hR with w | ⟨w1, w2⟩
      · exact h6.2 x i hx hi' w
      · exact hc (w2.trans (Rch.stp hx hi' w1))
  · obtain ⟨z, z1, z2, z3, z4⟩ := h7
    refine ⟨z, z1, ?_, ?_, fun i hi => ?_⟩
    · rw [hI _ _ _ (by omega) (by omega) (by omega) (by omega) (by omega) (by omega)]; exact z2
    · rw [hI _ _ _ (by omega) (by omega) (by omega) (by omega) (by omega) (by omega)]; exact z3
    · rw [hI _ _ _ (by omega) (by omega) (by omega) (by omega) (by omega) (by omega), hI _ _ _ (by omega) (by omega) (by omega) (by omega) (by omega) (by omega)]; exact z4 i hi
  · exact ⟨by rw [hI _ _ _ (by omega) (by omega) (by omega) (by omega) (by omega) (by omega)]; exact a2.1, a2.2.1, fun q hq => by rw [up3_c _ _ _ _ _ (by decide)]; exact a2.2.2.1 q hq, fun q hq => by rw [up3_c _ _ _ _ _ (by decide)]; exact a2.2.2.2.1 q hq, fun q hq => by rw [e4 q 0 (by omega) (by omega)]; exact a2.2.2.2.2 q hq⟩
  · exact ⟨by rw [hI _ _ _ (by omega) (by omega) (by omega) (by omega) (by omega) (by omega)]; exact a3.1, a3.2⟩
  · intro c i q t tt hi hr2 hsty
    by_cases hx : c = 5 ∧ i = k ∧ q = rs k
    · obtain ⟨rfl, rfl, rfl⟩ := hx
      rw [up3_s] at hr2
      have e1 : t = j := (Option.some.inj hr2).symm
      have e2 : tt = 4 := by simp [sty] at hsty; omega
      subst e1; subst e2; exact hj
    · rw [up3_n _ _ _ _ _ hx] at hr2; exact a4 c i q t tt hi hr2 hsty
  · rw [hI _ _ _ (by omega) (by omega) (by omega) (by omega) (by omega) (by omega)]; exact (a5 c i hcc hi q).1
  · by_cases hx : c = 4 ∧ q = 4
    · obtain ⟨rfl, rfl⟩ := hx
      rw [(spr_4 k j J hbj n).2.1 i hi]; exact (a5 4 i hcc hi 4).2.1
    · rw [spr_o _ _ _ hx n]; exact (a5 c i hcc hi q).2.1
  · rw [up3_n _ _ _ _ _ (by omega)]; exact (a5 c i hcc hi q).2.2
  · rw [en 24 q (by omega) (by omega), em 26 q (by omega), em 30 q (by omega), em 32 q (by omega), em 33 q (by omega), em 35 q (by omega), em 36 q (by omega), spr_o _ _ _ (by omega) n]; exact a6 q hq

theorem tka_R (R R' : Fr) (h : ∀ q i, R' 10 q i = R 10 q i) (p0 : Nat) : ∀ (z : Nat) (I : Fi), tka R' p0 z I = tka R p0 z I
  | 0, I => rfl
  | z + 1, I => by rw [tka, tka, h, tka_R R R' h p0 z]
theorem ep_R (R R' : Fr) (h : ∀ q i, R' 10 q i = R 10 q i) (zs : Nat → Nat) (I : Fi) : ∀ t, epS R' zs I t = epS R zs I t
  | 0 => rfl
  | t + 1 => by rw [epS, epS, ep_R R R' h zs I t, tka_R R R' h]

theorem op_asks (l : Launch) (D : va_G) (dA : Nat → ClassId) (base n ver : Nat) (ad : Fa) (I : Fi) (J : Fj) (R : Fr) (hS : SIM n ver I J R) (hv : ver < 1000) (x y : Int32) : BOs l D dA base n ad I J R yX3_asks cX3_asks 5 (some .int) 5 yX4_asks cX4_asks 4 2 [.int x, .int y] ver ∨ BOs l D dA base n ad I J R yX3_asks cX3_asks 5 (some .int) 5 yX4_asks cX4_asks 4 2 [.int x, .int y] (ver + 1) := by
  obtain ⟨rs, aq, zs, rw, ap, pk, hB, hP, h4⟩ := id hS
  obtain ⟨k1, k2, k3, k4, k5, k6, k7, hT, hG, hM, hcl, hdf, hfr⟩ := id hB
  have hn := hG.2.1
  obtain ⟨hW, hMW⟩ := sib_RW hB hP
  rcases nIk x hn with hx | ⟨k, hk, rfl⟩
  · exact Or.inl (BO.s ⟨_, _, _, _, _, _, _, c_X3_asks_o1 l D dA base n ad I J R hT hG x hx y, c_X4_asks_o1 l D dA base n ad I J R hT hM x hx y, sim_code hS 0⟩)
  · have e1 := (k1 k hk).1
    by_cases hf : I 4 k 1 = -1
    · rcases nIk y hn with hy | ⟨j, hj, rfl⟩
      · exact Or.inl (BO.s ⟨_, _, _, _, _, _, _, c_X3_asks_leaf l D dA base n ad I J R hT hG k hk hf y, c_X4_asks_o2 l D dA base n ad I J R hT hM k hk y hy, sim_code hS 0⟩)
      · exact Or.inl (BO.s ⟨_, _, _, _, _, _, _, c_X3_asks_leaf l D dA base n ad I J R hT hG k hk hf (nI j), c_X4_asks_leaf l D dA base n ad I J R hT hM k hk j hj (by rw [← e1]; exact hf), sim_code hS 0⟩)
    · have hf2 : ¬ I 23 0 k = -1 := by rw [← e1]; exact hf
      rcases nIk y hn with hy | ⟨j, hj, rfl⟩
      · exact Or.inl (BO.s ⟨_, _, _, _, _, _, _, c_X3_asks_o2 l D dA base n ad I J R hT hG k hk hf y hy, c_X4_asks_o2 l D dA base n ad I J R hT hM k hk y hy, sim_code hS 0⟩)
      · obtain ⟨r1, r2, r3, r4⟩ := k5.1 k hk
        by_cases h8 : rs k = 8
        · exact Or.inl (BO.s ⟨_, _, _, _, _, _, _, c_X3_asks_full l D dA base n ad I J R hT hG k (rs k) hk j hj hf r1 r3 h8, c_X4_asks_full l D dA base n ad I J R hT hM k hk j hj rs rw hMW hf2 h8, sim_code hS 0⟩)
        · have hlt : rs k < 8 := by omega
          have hbk := k6.1 j k hj (by omega)
          have hrw : ∀ x i, x < n → i < rs x → rw x i < n := fun x i hx hi => ((k5.1 x hx).2.2.2 i hi).2.2
          by_cases hc : Rch n rs rw j k
          · left
            obtain ⟨m, hw⟩ := way_ex hn hrw k6.2 (sib_nxt hB hP hk) hk hj hc
            obtain ⟨w1, w2, w3, w4⟩ := id hw
            obtain ⟨Y, y0, y1, y2, y3, y4⟩ := nrg_way (n := n) (rs := rs) (rw := rw) w2 (fun t ht => ⟨(w4 t ht).1, by
                obtain ⟨i, v1, v2, -⟩ := sib_nxt hB hP hk _ (w4 t ht).2.1 (wy_in hrw (sib_nxt hB hP hk) hk hj hc t).2 (w4 t ht).1
                rw [wy, if_neg (w4 t ht).1]
                dsimp only at v2 ⊢
                rw [v2]; rfl⟩) 39 0 (up3 (up3 I 3 0 0 (nI k)) 0 0 5 1) (Nat.zero_le _) (by omega) (by rw [up3_s]; rfl)
            have hYm : ∀ c b d, ¬ c = 3 → ¬ (c = 0 ∧ d = 5) → Y c b d = I c b d := fun c b d q1 q2 => by rw [y4 c b d q1 q2, up3_n _ _ _ _ _ (by omega), up3_c _ _ _ _ _ q1]
            refine ⟨_, _, _, _, (c_X3_asks_ring l D dA base n ad I J R hT hG k (rs k) hk j hj hf r1 r3 hlt rs hW (hbk.mpr hc)).cong rfl y0.symm rfl rfl, (c_X4_asks_ring l D dA base n ad Y J R hT ⟨by rw [hYm _ _ _ (by omega) (by omega)]; exact hM.1, hM.2⟩ k hk j hj rs rw (fun a ha => ⟨by rw [hYm _ _ _ (by omega) (by omega)]; exact (hMW a ha).1, (hMW a ha).2.1, fun i hi => ⟨by rw [hYm _ _ _ (by omega) (by omega)]; exact ((hMW a ha).2.2 i hi).1, ((hMW a ha).2.2 i hi).2⟩⟩) (by rw [hYm _ _ _ (by omega) (by omega)]; exact hf2) hlt hc m _ hw).mono ?_⟩
            rintro r a N I2 J2 R2 ⟨rfl, rfl, rfl, e4, e5, I1, hF, rfl⟩
            have e4 := e4.symm
            have e5 := e5.symm
            subst e4
            subst e5
            have hI1 : ∀ c b d, ¬ c = 44 → ¬ (c = 11 ∧ d = 0) → I1 c b d = Y c b d := fun c b d q1 q2 => by rw [hF.1.1 c b d (by omega), up3_n _ _ _ _ _ (by omega)]
            have hX : ∀ c b d, ¬ c = 3 → ¬ (c = 0 ∧ d = 5) → ¬ c = 42 → ¬ (c = 11 ∧ (d = 0 ∨ d = 23)) → ¬ c = 44 → mrS (up3 (up3 I1 42 0 0 (nI k)) 11 0 23 1) (wy (fun a => ftr R J a k (rs a) (rs a)) k j) m c b d = I c b d := fun c b d q1 q2 q3 q4 q5 => by
              rw [mrS_o _ _ q3 (by omega), up3_n _ _ _ _ _ (by omega), up3_c _ _ _ _ _ q3, hI1 c b d q5 (by omega), hYm c b d q1 q2]
            refine ⟨rfl, rfl, rfl, rs, aq, zs, rw, ap, pk, sib_ring hB hX ⟨m + 1, by omega, ?_, ?_, fun i hi => ?_⟩, pil_eq (rs' := rs) hP (fun c b d hcc => hX c b d (by omega) (by omega) (by omega) (by omega) (by omega)), h4⟩
            · rw [mrS_o _ _ (by omega) (by omega), up3_c _ _ _ _ _ (by decide), up3_c _ _ _ _ _ (by decide), hI1 _ _ _ (by omega) (by omega)]; exact y1
            · exact mrS_z _ _ (up3_s _ _ _ _ _) m
            · rw [mrS_o _ _ (by omega) (by omega), up3_c _ _ _ _ _ (by decide), up3_c _ _ _ _ _ (by decide), hI1 _ _ _ (by omega) (by omega)]
              cases i with
              | zero => rw [y2 0 (Nat.le_refl _), up3_c _ _ _ _ _ (by decide), up3_s, mrS_0, up3_c _ _ _ _ _ (by decide), up3_s]
              | succ i => rw [y3 i (Nat.zero_le _) (by omega), mrS_i _ _ m i (by omega)]
          · right
            have hbf : bit (J 4 j 4) k = false := by
              cases hb : bit (J 4 j 4) k with
              | false => rfl
              | true => exact absurd (hbk.mp hb) hc
            have hPL' : PL n I R zs := pil_PL hP
            obtain ⟨f1, f2⟩ := ep_fin (X := up3 (up3 I 4 k 3 (nI (rs k + 1))) 0 0 2 (I 0 0 2 + 1)) hB hP (fun q => by simp [up3]) (fun q => by simp [up3])
            have hepR : ∀ X t, epS (up3 R 5 k (rs k) (some j)) zs X t = epS R zs X t := fun X t => ep_R _ _ (fun q i => up3_c _ _ _ _ _ (by decide)) zs X t
            have hnv : nvI (up3 R 5 k (rs k) (some j)) zs (up3 I 4 k 3 (nI (rs k + 1))) = epS R zs (up3 (up3 I 4 k 3 (nI (rs k + 1))) 0 0 2 (I 0 0 2 + 1)) 5 := by
              unfold nvI; rw [hepR, up3_c _ _ _ _ _ (by decide)]
            have hC : ∃ C, C = up3 (nvI (up3 R 5 k (rs k) (some j)) zs (up3 I 4 k 3 (nI (rs k + 1)))) 4 k 6 (I 0 0 2 + 1) := ⟨_, rfl⟩
            obtain ⟨C, eC⟩ := hC
            have hCr : ∀ c b d, ¬ (c = 4 ∧ d = 16) → ¬ c = 9 → C c b d = up3 (up3 (up3 I 4 k 3 (nI (rs k + 1))) 0 0 2 (I 0 0 2 + 1)) 4 k 6 (I 0 0 2 + 1) c b d := fun c b d q1 q2 => by
              rw [eC, hnv, up3_r, up3_r, ep4 _ _ _ _ _ _ q1 q2]
            have hCm : ∀ c b d, ¬ c < 11 → C c b d = I c b d := fun c b d q => by
              rw [hCr c b d (by omega) (by omega), up3_c _ _ _ _ _ (by omega), up3_c _ _ _ _ _ (by omega), up3_c _ _ _ _ _ (by omega)]
            refine ⟨_, _, _, _, (c_X3_asks_yes l D dA base n ad I J R hT hG k (rs k) hk j hj hf r1 r3 hlt zs hPL' hbf).cong rfl eC.symm rfl rfl, (c_X4_asks_yes l D dA base n ad C _ _ (hT.up rfl) ⟨by rw [hCm _ _ _ (by omega)]; exact hM.1, hM.2⟩ k hk j hj rs rw (fun a ha => ⟨by rw [hCm _ _ _ (by omega)]; exact (hMW a ha).1, (hMW a ha).2.1, fun i hi => ⟨by rw [hCm _ _ _ (by omega)]; exact ((hMW a ha).2.2 i hi).1, ((hMW a ha).2.2 i hi).2⟩⟩) (by rw [hCm _ _ _ (by omega)]; exact hf2) hlt hc zs (fun q hq => ⟨by rw [hCm _ _ _ (by omega)]; exact (pil_HI hP q hq).1, (pil_HI hP q hq).2⟩)).mono ?_⟩
            rintro r a N I2 J2 R2 ⟨rfl, rfl, rfl, rfl, rfl, I1, hF, rfl⟩
            refine ⟨rfl, rfl, rfl, ?_⟩
            have hI1 : ∀ c b d, ¬ c = 44 → ¬ (c = 11 ∧ d = 0) → I1 c b d = C c b d := fun c b d q1 q2 => by rw [hF.1.1 c b d (by omega), up3_n _ _ _ _ _ (by omega)]
            have hw1 : I 0 0 2 + 1 = nI (ver + 1) := by rw [k3.1, nI_1]
            have hw2 : C 11 0 1 + 1 = nI (ver + 1) := by rw [hCm _ _ _ (by omega), k3.2.1, nI_1]
            have hZ : ∃ Z, Z = up3 (nxI (up3 (up3 I1 25 0 (8 * k + rs k) (nI j)) 24 0 k (nI (rs k + 1)))) 29 0 k (C 11 0 1 + 1) := ⟨_, rfl⟩
            obtain ⟨Z, eZ⟩ := hZ
            have hZr : ∀ c b d, ¬ c = 37 → Z c b d = up3 (up3 (up3 (up3 I1 25 0 (8 * k + rs k) (nI j)) 24 0 k (nI (rs k + 1))) 11 0 1 (nI (ver + 1))) 29 0 k (nI (ver + 1)) c b d := fun c b d q => by
              rw [eZ, hw2, up3_r, up3_r, nx_r _ _ _ _ q, up3_c _ _ _ _ _ (show ¬ (11 : Nat) = 24 by decide), up3_c _ _ _ _ _ (show ¬ (11 : Nat) = 25 by decide), hI1 _ _ _ (by omega) (by omega), hw2]
            rw [← eZ]
            have hS0 := sib_asks (I' := fun c b d => if (c = 4 ∧ d = 16) ∨ c = 9 ∨ c = 37 then I c b d else Z c b d) hB hv hk hj hf hlt hc (fun c b d q1 q2 q3 q4 q5 q6 => by
                show (if (c = 4 ∧ d = 16) ∨ c = 9 ∨ c = 37 then I c b d else Z c b d) = I c b d
                by_cases hp : (c = 4 ∧ d = 16) ∨ c = 9 ∨ c = 37
                · rw [if_pos hp]
                · rw [if_neg hp, hZr _ _ _ (by omega), up3_n _ _ _ _ _ (by omega), up3_n _ _ _ _ _ (by omega), up3_n _ _ _ _ _ (by omega), up3_n _ _ _ _ _ (by omega), hI1 _ _ _ q6 (by omega), hCr _ _ _ (by omega) (by omega), up3_n _ _ _ _ _ (by omega), up3_n _ _ _ _ _ (by omega), up3_n _ _ _ _ _ (by omega)]) (by
                show (if _ then _ else _) = _
                rw [if_neg (by omega), hZr _ _ _ (by omega), up3_c _ _ _ _ _ (by decide), up3_c _ _ _ _ _ (by decide), up3_c _ _ _ _ _ (by decide), up3_c _ _ _ _ _ (by decide), hI1 _ _ _ (by omega) (by omega), hCr _ _ _ (by omega) (by omega), up3_k _ _ _ _ _ (by omega), up3_c _ _ _ _ _ (by decide), up3_s]) (by
                show (if _ then _ else _) = _
                rw [if_neg (by omega), hZr _ _ _ (by omega), up3_c _ _ _ _ _ (by decide), up3_c _ _ _ _ _ (by decide), up3_c _ _ _ _ _ (by decide), up3_c _ _ _ _ _ (by decide), hI1 _ _ _ (by omega) (by omega), hCr _ _ _ (by omega) (by omega), up3_s, hw1]) (by
                show (if _ then _ else _) = _
                rw [if_neg (by omega), hZr _ _ _ (by omega), up3_c _ _ _ _ _ (by decide), up3_c _ _ _ _ _ (by decide), up3_c _ _ _ _ _ (by decide), up3_c _ _ _ _ _ (by decide), hI1 _ _ _ (by omega) (by omega), hCr _ _ _ (by omega) (by omega), up3_c _ _ _ _ _ (by decide), up3_s, hw1]) (by
                show (if _ then _ else _) = _
                rw [if_neg (by omega), hZr _ _ _ (by omega), up3_c _ _ _ _ _ (by decide), up3_s]) (by
                show (if _ then _ else _) = _
                rw [if_neg (by omega), hZr _ _ _ (by omega), up3_c _ _ _ _ _ (by decide), up3_c _ _ _ _ _ (by decide), up3_s]) (by
                show (if _ then _ else _) = _
                rw [if_neg (by omega), hZr _ _ _ (by omega), up3_c _ _ _ _ _ (by decide), up3_c _ _ _ _ _ (by decide), up3_c _ _ _ _ _ (by decide), up3_s]) (by
                show (if _ then _ else _) = _
                rw [if_neg (by omega), hZr _ _ _ (by omega), up3_s])
            refine sim_emp hS0 (fun c b d q1 q2 q3 => ?_) (fun q => ?_) (fun q hq => ⟨?_, ?_⟩)
            · show _ = (if _ then _ else _)
              rw [if_neg (by omega)]
            · rw [hZr _ _ _ (by omega), up3_c _ _ _ _ _ (by decide), up3_c _ _ _ _ _ (by decide), up3_c _ _ _ _ _ (by decide), up3_c _ _ _ _ _ (by decide), hI1 _ _ _ (by omega) (by omega), eC, hnv, up3_k _ _ _ _ _ (by decide)]; exact f1 q
            · rw [hZr _ _ _ (by omega), up3_c _ _ _ _ _ (by decide), up3_c _ _ _ _ _ (by decide), up3_c _ _ _ _ _ (by decide), up3_c _ _ _ _ _ (by decide), hI1 _ _ _ (by omega) (by omega), eC, hnv, up3_c _ _ _ _ _ (by decide)]; exact f2 q hq
            · rw [eZ, up3_c _ _ _ _ _ (by decide)]
              unfold nxI
              rw [up3_c _ _ _ _ _ (by decide)]
              exact em37 _ _ hq

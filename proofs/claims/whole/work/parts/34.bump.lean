/-! drop, change, spoil -/
theorem sib_ver {n ver : Nat} {rs aq : Nat → Nat} {rw ap : Nat → Nat → Nat} {I : Fi} {J : Fj} {R : Fr} (h : SIB n ver rs aq rw ap I J R) (hv : ver < 1000) : SIB n (ver + 1) rs aq rw ap (up3 (up3 I 0 0 2 (nI (ver + 1))) 11 0 1 (nI (ver + 1))) J R := by
  obtain ⟨h1, h2, h3, h4, h5, h6, h7, h8⟩ := h
  refine ⟨?_, ?_, ?_, ?_, ?_, h6, ?_, ?_⟩
  · intro k hk; simpa [up3] using h1 k hk
  · intro k hk; simpa [up3] using h2 k hk
  · refine ⟨by simp [up3], by simp [up3], by omega, fun k hk => ?_⟩
    obtain ⟨b1, b2, b3⟩ := h3.2.2.2 k hk
    refine ⟨by simpa [up3] using b1, fun hh => ?_, by simpa [up3] using b3⟩
    obtain ⟨c1, v, c2, c3⟩ := b2 (by simpa [up3] using hh)
    exact ⟨by simpa [up3] using c1, v, by omega, by simpa [up3] using c3⟩
  · intro k hk; simpa [up3] using h4 k hk
  · exact ⟨fun k hk => by simpa [up3] using h5.1 k hk, h5.2⟩
  · obtain ⟨z, z1, z2, z3, z4⟩ := h7
    exact ⟨z, z1, by simpa [up3] using z2, by simpa [up3] using z3, fun i hi => by simpa [up3] using z4 i hi⟩
  · obtain ⟨a1, a2, a3, a4, a5, a6⟩ := h8
    exact ⟨a1, (a2.up (by decide) (by decide)).up (by decide) (by decide), (a3.up (by decide)).up (by decide), a4, fun c i hc hi => ((a5 c i hc hi).upI (by omega)).upI (by omega), fun k hk => by simpa [up3] using a6 k hk⟩
theorem sib_drop {n ver : Nat} {rs aq : Nat → Nat} {rw ap : Nat → Nat → Nat} {I : Fi} {J : Fj} {R : Fr} (h : SIB n ver rs aq rw ap I J R) (k : Nat) (hk : k < n) : SIB n ver rs aq rw ap (up3 (up3 I 4 k 10 0) 36 0 k 0) J R := by
  obtain ⟨h1, h2, h3, h4, h5, h6, h7, h8⟩ := h
  refine ⟨fun q hq => ?_, fun q hq => ?_, ⟨by simpa [up3] using h3.1, by simpa [up3] using h3.2.1, h3.2.2.1, fun q hq => ?_⟩, fun q hq => ?_, ⟨fun q hq => ?_, h5.2⟩, h6, ?_, ?_⟩
  · have t := h1 q hq
    by_cases e : q = k
    · subst e; simpa [up3] using ⟨t.1, t.2.1, t.2.2.1, t.2.2.2.2⟩
    · simpa [up3, e] using t
  · have t := h2 q hq
    by_cases e : q = k
    · subst e; simpa [up3] using ⟨t.1, t.2.1, fun z => (t.2.2.2.1 z).2, t.2.2.2.2⟩
    · simpa [up3, e] using t
  · have t := h3.2.2.2 q hq
    by_cases e : q = k
    · subst e; simpa [up3] using ⟨t.1, fun z => t.2.2 (Or.inl z)⟩
    · simpa [up3, e] using t
  · simpa [up3] using h4 q hq
  · simpa [up3] using h5.1 q hq
  · obtain ⟨z, z1, z2, z3, z4⟩ := h7
    exact ⟨z, z1, by simpa [up3] using z2, by simpa [up3] using z3, fun i hi => by simpa [up3] using z4 i hi⟩
  · obtain ⟨a1, a2, a3, a4, a5, a6⟩ := h8
    exact ⟨a1, (a2.up (by omega) (by omega)).up (by omega) (by omega), (a3.up (by omega)).up (by omega), a4, fun c i hc hi => ((a5 c i hc hi).upI (by omega)).upI (by omega), fun q hq => by simpa [up3, show ¬ q = k by omega] using a6 q hq⟩
theorem sib_change {n ver : Nat} {rs aq : Nat → Nat} {rw ap : Nat → Nat → Nat} {I : Fi} {J : Fj} {R : Fr} (h : SIB n ver rs aq rw ap I J R) (k : Nat) (hk : k < n) (hf : I 4 k 1 = -1) (v : Int64) (w : Int32) : SIB n ver rs aq rw ap (up3 (up3 I 4 k 9 w) 28 0 k w) (up3 (up3 J 4 k 8 v) 34 0 k v) R := by
  obtain ⟨h1, h2, h3, h4, h5, h6, h7, h8⟩ := h
  refine ⟨fun q hq => ?_, fun q hq => ?_, ⟨by simpa [up3] using h3.1, by simpa [up3] using h3.2.1, h3.2.2.1, fun q hq => ?_⟩, fun q hq => ?_, ⟨fun q hq => ?_, h5.2⟩, ?_, ?_, ?_⟩
  · have t := h1 q hq
    by_cases e : q = k
    · subst e; simpa [up3] using ⟨t.1, t.2.1, t.2.2.1, t.2.2.2.1, t.2.2.2.2.1, t.2.2.2.2.2.1⟩
    · simpa [up3, e] using t
  · have t := h2 q hq
    by_cases e : q = k
    · subst e; simpa [up3, hf] using ⟨t.2.1, t.2.2.1, t.2.2.2.1 hf⟩
    · simpa [up3, e] using t
  · have t := h3.2.2.2 q hq
    by_cases e : q = k
    · subst e; simpa [up3] using ⟨t.1, t.2.1⟩
    · simpa [up3, e] using t
  · simpa [up3] using h4 q hq
  · simpa [up3] using h5.1 q hq
  · exact ⟨fun a b ha hb => by simpa [up3] using h6.1 a b ha hb, h6.2⟩
  · obtain ⟨z, z1, z2, z3, z4⟩ := h7
    exact ⟨z, z1, by simpa [up3] using z2, by simpa [up3] using z3, fun i hi => by simpa [up3] using z4 i hi⟩
  · obtain ⟨a1, a2, a3, a4, a5, a6⟩ := h8
    exact ⟨a1, (a2.up (by omega) (by omega)).up (by omega) (by omega), (a3.up (by omega)).up (by omega), a4, fun c i hc hi => ((((a5 c i hc hi).upI (by omega)).upI (by omega)).upJ (by omega)).upJ (by omega), fun q hq => by simpa [up3, show ¬ q = k by omega] using a6 q hq⟩
theorem sib_spoil {n ver : Nat} {rs aq : Nat → Nat} {rw ap : Nat → Nat → Nat} {I : Fi} {J : Fj} {R : Fr} (h : SIB n ver rs aq rw ap I J R) (k : Nat) (hk : k < n) (hf : ¬ I 4 k 1 = -1) (b : Int32) (hb : b = 0 ∨ b = 1) (w : Int32) : SIB n ver rs aq rw ap (up3 (up3 (up3 (up3 I 4 k 5 b) 4 k 6 w) 35 0 k b) 29 0 k w) J R := by
  obtain ⟨h1, h2, h3, h4, h5, h6, h7, h8⟩ := h
  refine ⟨fun q hq => ?_, fun q hq => ?_, ⟨by simpa [up3] using h3.1, by simpa [up3] using h3.2.1, h3.2.2.1, fun q hq => ?_⟩, fun q hq => ?_, ⟨fun q hq => ?_, h5.2⟩, h6, ?_, ?_⟩
  · have t := h1 q hq
    by_cases e : q = k
    · subst e; simpa [up3] using ⟨t.1, t.2.2⟩
    · simpa [up3, e] using t
  · have t := h2 q hq
    by_cases e : q = k
    · subst e; simpa [up3, hf] using ⟨t.1.resolve_left hf, hb, t.2.2.1, t.2.2.2.2 hf⟩
    · simpa [up3, e] using t
  · have t := h3.2.2.2 q hq
    by_cases e : q = k
    · subst e; simpa [up3] using t.2
    · simpa [up3, e] using t
  · simpa [up3] using h4 q hq
  · simpa [up3] using h5.1 q hq
  · obtain ⟨z, z1, z2, z3, z4⟩ := h7
    exact ⟨z, z1, by simpa [up3] using z2, by simpa [up3] using z3, fun i hi => by simpa [up3] using z4 i hi⟩
  · obtain ⟨a1, a2, a3, a4, a5, a6⟩ := h8
    exact ⟨a1, (((a2.up (by omega) (by omega)).up (by omega) (by omega)).up (by omega) (by omega)).up (by omega) (by omega), (((a3.up (by omega)).up (by omega)).up (by omega)).up (by omega), a4, fun c i hc hi => ((((a5 c i hc hi).upI (by omega)).upI (by omega)).upI (by omega)).upI (by omega), fun q hq => by simpa [up3, show ¬ q = k by omega] using a6 q hq⟩
/-- an operation that empties all piles: what it leaves, seen without the piles, keeps the relation -/
theorem sim_emp {n ver : Nat} {rs aq : Nat → Nat} {rw ap : Nat → Nat → Nat} {Is I2 : Fi} {J : Fj} {R : Fr} (h : SIB n ver rs aq rw ap Is J R) (hI : ∀ c b d, ¬ (c = 4 ∧ d = 16) → ¬ c = 9 → ¬ c = 37 → I2 c b d = Is c b d) (h16 : ∀ k, I2 4 k 16 = 0) (h9 : ∀ q, q < 5 → I2 9 q 1 = 0 ∧ I2 37 0 q = 0) : SIM n ver I2 J R := by
  obtain ⟨-, -, -, -, -, -, -, a1, a2, a3, a4, a5, a6⟩ := id h
  refine ⟨rs, aq, fun _ => 0, rw, ap, fun _ _ => 0, sib_fr h (fun c b d hp => hI c b d (fun z => hp (Or.inl z)) (fun z => hp (by simp [PF, z])) (fun z => hp (by simp [PF, z]))) (fun _ _ _ _ => rfl) (fun _ _ _ _ => rfl) a4 (fun c i hc hi q => ?_), pil_0 (fun q hq => h9 q hq) (fun k _ => h16 k), rfl⟩
  refine ⟨?_, (a5 c i (by omega) hi q).2⟩
  by_cases hq : c = 4 ∧ q = 16
  · obtain ⟨rfl, rfl⟩ := hq; exact h16 i
  · rw [hI _ _ _ hq (by omega) (by omega)]; exact (a5 c i (by omega) hi q).1
theorem ep_fin {n ver : Nat} {rs aq zs : Nat → Nat} {rw ap pk : Nat → Nat → Nat} {I X : Fi} {J : Fj} {R : Fr} (h : SIB n ver rs aq rw ap I J R) (hP : PIL n rs aq rw zs pk I J R) (hX : ∀ k, X 4 k 16 = I 4 k 16) (hX9 : ∀ q, X 9 q 1 = I 9 q 1) : (∀ k, epS R zs X 5 4 k 16 = 0) ∧ ∀ q, q < 5 → epS R zs X 5 9 q 1 = 0 := by
  obtain ⟨-, -, -, -, -, -, -, a1, a2, a3, a4, a5, a6⟩ := id h
  refine ⟨fun k => ?_, fun q hq => ?_⟩
  · rcases Nat.lt_or_ge k n with hk | hk
    · exact pil_e16 hP X R hX (fun _ _ => rfl) k hk
    · exact epS_16 R zs X k 5 (Or.inl (by rw [hX]; exact (a5 4 k (by omega) hk 16).1))
  · exact epS_9z R zs X q (by rw [hX9]; exact (hP.1 q hq).1) 5 hq

theorem op_drop (l : Launch) (D : va_G) (dA : Nat → ClassId) (base n ver : Nat) (ad : Fa) (I : Fi) (J : Fj) (R : Fr) (hS : SIM n ver I J R) (x : Int32) : BO l D dA base n ad I J R yX3_drop cX3_drop 3 (some .boolean) 4 yX4_drop cX4_drop 2 1 [.int x] ver := by
  obtain ⟨rs, aq, zs, rw, ap, pk, hB, hP, h4⟩ := id hS
  obtain ⟨k1, k2, k3, k4, k5, k6, k7, hT, hG, hM, hcl, hdf, hfr⟩ := id hB
  have hn := hG.2.1
  rcases nIk x hn with hx | ⟨k, hk, rfl⟩
  · exact ⟨_, _, _, _, _, _, _, c_X3_drop_out l D dA base n ad I J R hT hG x hx, c_X4_drop_out l D dA base n ad I J R hT hM x hx, sim_code hS 0⟩
  · have e10 := (k1 k hk).2.2.2.1
    by_cases hq : I 4 k 10 = 0
    · exact ⟨_, _, _, _, _, _, _, c_X3_drop_no l D dA base n ad I J R hT hG k hk hq, c_X4_drop_no l D dA base n ad I J R hT hM k hk (by rw [← e10]; exact hq), sim_code hS 0⟩
    · obtain ⟨f1, f2⟩ := ep_fin (X := up3 I 4 k 10 0) hB hP (fun k => by simp [up3]) (fun q => by simp [up3])
      refine ⟨_, _, _, _, _, _, _, c_X3_drop_yes l D dA base n ad I J R hT hG k hk zs (pil_PL hP) hq, c_X4_drop_yes l D dA base n ad _ J R hT ⟨by rw [ep4 _ _ _ _ _ _ (by omega) (by omega)]; simpa [up3] using hM.1, hM.2⟩ k hk zs (fun q hq => ⟨by rw [ep4 _ _ _ _ _ _ (by omega) (by omega)]; simpa [up3] using (pil_HI hP q hq).1, (pil_HI hP q hq).2⟩) (by rw [ep4 _ _ _ _ _ _ (by omega) (by omega)]; simpa [up3, ← e10] using hq), ?_⟩
      refine sim_emp (sib_code (sib_drop hB k hk) 0) (fun c b d y1 y2 y3 => ?_) (fun q => ?_) (fun q hq => ⟨?_, em37 _ _ hq⟩)
      · rw [em5 _ _ _ _ y3, up3_sw (up3 I 4 k 10 0) (by omega)]
        simp only [up3_r]
        rw [ep4 _ _ _ _ _ _ y1 y2]
        simp only [up3_r]
      · rw [em5 _ _ _ _ (by omega)]; simpa [up3_r] using f1 q
      · rw [em5 _ _ _ _ (by omega)]; simpa [up3_r] using f2 q hq

theorem nv_r (R : Fr) (zs : Nat → Nat) (I : Fi) (c b d : Nat) (h1 : ¬ (c = 4 ∧ d = 16)) (h2 : ¬ c = 9) : nvI R zs I c b d = up3 I 0 0 2 (I 0 0 2 + 1) c b d := ep4 _ _ _ _ _ _ h1 h2
theorem nx_r (I : Fi) (c b d : Nat) (h : ¬ c = 37) : nxI I c b d = up3 I 11 0 1 (I 11 0 1 + 1) c b d := by
  unfold nxI
  rw [up3_r, up3_r, em5 _ _ _ _ h]

theorem op_change (l : Launch) (D : va_G) (dA : Nat → ClassId) (base n ver : Nat) (ad : Fa) (I : Fi) (J : Fj) (R : Fr) (hS : SIM n ver I J R) (hv : ver < 1000) (x : Int32) (v : Int64) : BO l D dA base n ad I J R yX3_change cX3_change 5 (some .int) 5 yX4_change cX4_change 4 2 [.int x, .long v] ver ∨ BO l D dA base n ad I J R yX3_change cX3_change 5 (some .int) 5 yX4_change cX4_change 4 2 [.int x, .long v] (ver + 1) := by
  obtain ⟨rs, aq, zs, rw, ap, pk, hB, hP, h4⟩ := id hS
  obtain ⟨k1, k2, k3, k4, k5, k6, k7, hT, hG, hM, hcl, hdf, hfr⟩ := id hB
  have hn := hG.2.1
  rcases nIk x hn with hx | ⟨k, hk, rfl⟩
  · exact Or.inl ⟨_, _, _, _, _, _, _, c_X3_change_out l D dA base n ad I J R hT hG x hx v, c_X4_change_out l D dA base n ad I J R hT hM x hx v, sim_code hS 0⟩
  · have e1 := (k1 k hk).1
    have e8 := (k1 k hk).2.2.2.2.2.2
    by_cases hf : I 4 k 1 = -1
    · by_cases hq : J 4 k 8 = v
      · exact Or.inl ⟨_, _, _, _, _, _, _, c_X3_change_same l D dA base n ad I J R hT hG k hk v hf hq, (c_X4_change_same l D dA base n ad I J R hT hM k hk v (by rw [← e1]; exact hf) (by rw [← e8]; exact hq)).cong (by rw [k3.1, k3.2.1]) rfl rfl rfl, sim_code hS 0⟩
      · obtain ⟨f1, f2⟩ := ep_fin (X := up3 I 0 0 2 (I 0 0 2 + 1)) hB hP (fun k => by simp [up3]) (fun q => by simp [up3])
        refine Or.inr ⟨_, _, _, _, _, _, _, c_X3_change_yes l D dA base n ad I J R hT hG k hk v zs (pil_PL hP) hf hq, (c_X4_change_yes l D dA base n ad _ _ R hT ⟨by simp only [up3_r, nv_r R zs I 11 0 2 (by omega) (by omega), Nat.reduceEqDiff, false_and, and_false, if_false]; exact hM.1, hM.2⟩ k hk v zs (fun q hq => ⟨by simp only [up3_r, nv_r R zs I 37 0 q (by omega) (by omega), Nat.reduceEqDiff, false_and, and_false, if_false]; exact (pil_HI hP q hq).1, (pil_HI hP q hq).2⟩) (by simp only [up3_r, nv_r R zs I 23 0 k (by omega) (by omega), Nat.reduceEqDiff, false_and, and_false, if_false]; rw [← e1]; exact hf) (by rw [up3_c _ _ _ _ _ (by decide), ← e8]; exact hq)).cong (by simp only [up3_r, nv_r R zs I 11 0 1 (by omega) (by omega), Nat.reduceEqDiff, false_and, and_false, if_false]; rw [k3.1, k3.2.1]) rfl rfl rfl, ?_⟩
        refine sim_emp (sib_code (sib_change (sib_ver hB hv) k hk (by simpa [up3] using hf) v (nI (ver + 1))) 0) (fun c b d y1 y2 y3 => ?_) (fun q => ?_) (fun q hq => ⟨?_, ?_⟩)
        · simp only [up3_r, nx_r _ _ _ _ y3, nv_r _ _ _ _ _ _ y1 y2, nv_r R zs I 11 0 1 (by omega) (by omega), Nat.reduceEqDiff, false_and, and_false, if_false, k3.1, k3.2.1, nI_1]
          repeat' split
          all_goals first | rfl | omega
        · simp only [up3_r, nx_r _ _ _ _ (show ¬ (4 : Nat) = 37 by omega), Nat.reduceEqDiff, false_and, and_false, if_false]; exact f1 q
        · simp only [up3_r, nx_r _ _ _ _ (show ¬ (9 : Nat) = 37 by omega), Nat.reduceEqDiff, false_and, and_false, if_false]; exact f2 q hq
        · simp only [up3_r, nxI, Nat.reduceEqDiff, false_and, and_false, if_false]; exact em37 _ _ hq
    · exact Or.inl ⟨_, _, _, _, _, _, _, c_X3_change_no l D dA base n ad I J R hT hG k hk v hf, c_X4_change_no l D dA base n ad I J R hT hM k hk v (by rw [← e1]; exact hf), sim_code hS 0⟩

theorem op_spoil (l : Launch) (D : va_G) (dA : Nat → ClassId) (base n ver : Nat) (ad : Fa) (I : Fi) (J : Fj) (R : Fr) (hS : SIM n ver I J R) (hv : ver < 1000) (x : Int32) (b : Int32) (hb : b = 0 ∨ b = 1) : BO l D dA base n ad I J R yX3_spoil cX3_spoil 4 (some .int) 5 yX4_spoil cX4_spoil 3 2 [.int x, .int b] ver ∨ BO l D dA base n ad I J R yX3_spoil cX3_spoil 4 (some .int) 5 yX4_spoil cX4_spoil 3 2 [.int x, .int b] (ver + 1) := by
  obtain ⟨rs, aq, zs, rw, ap, pk, hB, hP, h4⟩ := id hS
  obtain ⟨k1, k2, k3, k4, k5, k6, k7, hT, hG, hM, hcl, hdf, hfr⟩ := id hB
  have hn := hG.2.1
  rcases nIk x hn with hx | ⟨k, hk, rfl⟩
  · exact Or.inl ⟨_, _, _, _, _, _, _, c_X3_spoil_out l D dA base n ad I J R hT hG x hx b hb, c_X4_spoil_out l D dA base n ad I J R hT hM x hx b hb, sim_code hS 0⟩
  · have e1 := (k1 k hk).1
    have e5 := (k1 k hk).2.1
    by_cases hf : I 4 k 1 = -1
    · exact Or.inl ⟨_, _, _, _, _, _, _, c_X3_spoil_leaf l D dA base n ad I J R hT hG k hk b hb hf, c_X4_spoil_leaf l D dA base n ad I J R hT hM k hk b hb (by rw [← e1]; exact hf), sim_code hS 0⟩
    · by_cases hq : I 4 k 5 = b
      · exact Or.inl ⟨_, _, _, _, _, _, _, c_X3_spoil_same l D dA base n ad I J R hT hG k hk b hb hf hq, (c_X4_spoil_same l D dA base n ad I J R hT hM k hk b hb (by rw [← e1]; exact hf) (by rw [← e5]; exact hq)).cong (by rw [k3.1, k3.2.1]) rfl rfl rfl, sim_code hS 0⟩
      · obtain ⟨f1, f2⟩ := ep_fin (X := up3 I 0 0 2 (I 0 0 2 + 1)) hB hP (fun k => by simp [up3]) (fun q => by simp [up3])
        refine Or.inr ⟨_, _, _, _, _, _, _, c_X3_spoil_yes l D dA base n ad I J R hT hG k hk b hb zs (pil_PL hP) hf hq, (c_X4_spoil_yes l D dA base n ad _ _ R hT ⟨by simp only [up3_r, nv_r R zs I 11 0 2 (by omega) (by omega), Nat.reduceEqDiff, false_and, and_false, if_false]; exact hM.1, hM.2⟩ k hk b hb zs (fun q hq => ⟨by simp only [up3_r, nv_r R zs I 37 0 q (by omega) (by omega), Nat.reduceEqDiff, false_and, and_false, if_false]; exact (pil_HI hP q hq).1, (pil_HI hP q hq).2⟩) (by simp only [up3_r, nv_r R zs I 23 0 k (by omega) (by omega), Nat.reduceEqDiff, false_and, and_false, if_false]; rw [← e1]; exact hf) (by simp only [up3_r, nv_r R zs I 35 0 k (by omega) (by omega), Nat.reduceEqDiff, false_and, and_false, if_false]; rw [← e5]; exact hq)).cong (by simp only [up3_r, nv_r R zs I 11 0 1 (by omega) (by omega), Nat.reduceEqDiff, false_and, and_false, if_false]; rw [k3.1, k3.2.1]) rfl rfl rfl, ?_⟩
        refine sim_emp (sib_code (sib_spoil (sib_ver hB hv) k hk (by simpa [up3] using hf) b hb (nI (ver + 1))) 0) (fun c b d y1 y2 y3 => ?_) (fun q => ?_) (fun q hq => ⟨?_, ?_⟩)
        · simp only [up3_r, nx_r _ _ _ _ y3, nv_r _ _ _ _ _ _ y1 y2, nv_r R zs I 11 0 1 (by omega) (by omega), Nat.reduceEqDiff, false_and, and_false, if_false, k3.1, k3.2.1, nI_1]
          repeat' split
          all_goals first | rfl | omega
        · simp only [up3_r, nx_r _ _ _ _ (show ¬ (4 : Nat) = 37 by omega), Nat.reduceEqDiff, false_and, and_false, if_false]; exact f1 q
        · simp only [up3_r, nx_r _ _ _ _ (show ¬ (9 : Nat) = 37 by omega), Nat.reduceEqDiff, false_and, and_false, if_false]; exact f2 q hq
        · simp only [up3_r, nxI, Nat.reduceEqDiff, false_and, and_false, if_false]; exact em37 _ _ hq

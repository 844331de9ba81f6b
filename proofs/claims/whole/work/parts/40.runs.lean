/-! begin, step, run -/
theorem mix_ul {α : Type} (A B : Nat → Nat → Nat → α) {c b d : Nat} {v : α} (h : ¬ c < 11) : mix (up3 A c b d v) B = mix A B := by
  funext x y w
  unfold mix
  split
  · rw [up3_c _ _ _ _ _ (by omega)]
  · rfl
theorem mix_id {α : Type} (A : Nat → Nat → Nat → α) {c b d : Nat} {v : α} (h : ¬ c < 11) : mix A (up3 A c b d v) = up3 A c b d v := by
  rw [← up_mb _ _ h, mix_s]
theorem pu_m (I : Fi) (p k z : Nat) : putI I p k z = mix (putI I p k z) I := by
  have := mx_put I I p k z
  rw [mix_s] at this; exact this
theorem pu_0 (I B : Fi) (p k z : Nat) (v : Int32) : mix (putI (up3 I 11 0 0 v) p k z) B = mix (putI I p k z) B := by
  rw [← mix_id I (by decide), mx_put, mix_l]
theorem wk_no {x : Int32} (hx : x < 0 ∨ nI 4 ≤ x) : ¬ (0 ≤ x ∧ x < 4) := fun z => hx.elim (fun h => absurd z.1 (Int32.not_le.mpr h)) (fun h => absurd z.2 (Int32.not_lt.mpr h))

theorem op_begin (l : Launch) (D : va_G) (dA : Nat → ClassId) (base n ver : Nat) (ad : Fa) (I : Fi) (J : Fj) (R : Fr) (hS : SIM n ver I J R) (w x : Int32) : BO l D dA base n ad I J R yX3_begin cX3_begin 4 (some .int) 3 yX4_begin cX4_begin 3 1 [.int w, .int x] ver := by
  obtain ⟨rs, aq, zs, rw, ap, pk, hB, hP, h4⟩ := id hS
  obtain ⟨k1, k2, k3, k4, k5, k6, k7, hT, hG, hM, hcl, hdf, hfr⟩ := id hB
  have hn := hG.2.1
  rcases nIk x hn with hx | ⟨k, hk, rfl⟩
  · rcases nIk (n := 4) w (by decide) with hw | ⟨w, hw, rfl⟩
    · exact ⟨_, _, _, _, _, _, _, c_X3_begin_key l D dA base n ad I J R hT hG x hx w, c_X4_begin_wkr l D dA base n ad I J R hT w (wk_no hw) x, sim_code hS 0⟩
    · exact ⟨_, _, _, _, _, _, _, c_X3_begin_key l D dA base n ad I J R hT hG x hx (nI w), c_X4_begin_key l D dA base n ad I J R hT hM x hx w hw, sim_code hS 0⟩
  · rcases nIk (n := 4) w (by decide) with hw | ⟨w, hw, rfl⟩
    · exact ⟨_, _, _, _, _, _, _, c_X3_begin_wkr l D dA base n ad I J R hT hG k hk w (wk_no hw), c_X4_begin_wkr l D dA base n ad I J R hT w (wk_no hw) (nI k), sim_code hS 0⟩
    · obtain ⟨z1, z2, z3⟩ := hP.1 w (by omega)
      rcases Nat.eq_zero_or_pos (zs w) with hz | hz
      · rw [hz] at z1 z2
        by_cases hsu : sure I k = true
        · have h16 : I 4 k 16 = 0 := by
            rcases hP.2.2.2 k hk with ⟨-, q, j, hq, hj, e⟩ | ⟨h, -⟩
            · have := (hP.2.1 q j hq hj).2.1
              rw [e, hsu] at this; cases this
            · exact h
          exact ⟨_, _, _, _, _, _, _, c_X3_begin_sure l D dA base n ad I J R hT hG k hk w hw z1 hsu, c_X4_begin_sure l D dA base n ad I J R hT hM k hk w hw zs (pil_HI hP) hz ((pil_pof hP hn hk).mpr h16) (by rw [sib_sure hB hk]; exact hsu), sim_code hS 0⟩
        · have hsu' : sure I k = false := by simpa using hsu
          by_cases h16 : I 4 k 16 = 0
          · have hB0 := sib_code hB 0
            have hP0 := pil_code hP 0
            obtain ⟨s1, s2⟩ := lay_sim hB0 hP0 (p := w) (j := k) (by omega) hk (by omega) (by rw [sure_code]; exact hsu') (by rw [up3_c _ _ _ _ _ (by decide)]; exact h16)
            rw [hz] at s1 s2
            have eP : putI I w k 0 = mix (putI I w k 0) I := pu_m I w k 0
            have e2 : lyI (up3 (putI I w k 0) 11 0 0 0) w k 0 = mix (putI (up3 I 11 0 0 0) w k 0) (lyI (up3 I 11 0 0 0) w k 0) := by
              rw [pu_0]
              conv => lhs; rw [eP, up_mb _ _ (by decide), mx_ly]
            have hr : ∀ c b d, ¬ c < 11 → putI I w k 0 c b d = I c b d := fun c b d hc => put_r I w k 0 (by omega) (by omega) (by omega)
            refine ⟨_, _, _, _, _, _, _, c_X3_begin_yes l D dA base n ad I J R hT hG k hk w hw z1 hsu' h16, c_X4_begin_yes l D dA base n ad (putI I w k 0) (up3 J 7 k 3 0) (up3 R 10 w 0 (some k)) s1.2.2.2.2.2.2.2.1 ⟨by rw [hr _ _ _ (by decide)]; exact hM.1, hM.2⟩ k hk w hw zs (fun q hq => ⟨by rw [hr _ _ _ (by decide)]; exact (pil_HI hP q hq).1, (pil_HI hP q hq).2⟩) hz (by rw [pofP_c I (putI I w k 0) _ zs (fun q => hr _ _ _ (by decide)) 5]; exact (pil_pof hP hn hk).mpr h16) ?_, rs, aq, u1 zs w 1, rw, ap, u2 pk w 0 k, by rw [e2]; exact s1, by rw [e2]; exact s2, by rw [u1_n _ _ (by omega)]; exact h4⟩
            unfold msure
            rw [hr _ _ _ (by decide), hr _ _ _ (by decide), hr _ _ _ (by decide), hr _ _ _ (by decide)]
            have := sib_sure hB hk
            rw [hsu'] at this; exact this
          · exact ⟨_, _, _, _, _, _, _, c_X3_begin_has l D dA base n ad I J R hT hG k hk w hw z1 hsu' h16, c_X4_begin_has l D dA base n ad I J R hT hM k hk w hw zs (pil_HI hP) hz (fun z => h16 ((pil_pof hP hn hk).mp z)), sim_code hS 0⟩
      · exact ⟨_, _, _, _, _, _, _, c_X3_begin_full l D dA base n ad I J R hT hG k hk w (zs w) hw z1 z3 hz, c_X4_begin_full l D dA base n ad I J R hT hM k hk w (zs w) hw z2 hz z3, sim_code hS 0⟩

theorem op_step (l : Launch) (D : va_G) (dA : Nat → ClassId) (base n ver : Nat) (ad : Fa) (I : Fi) (J : Fj) (R : Fr) (hS : SIM n ver I J R) (w : Int32) : BO l D dA base n ad I J R yX3_step cX3_step 2 (some .int) 6 yX4_step cX4_step 2 4 [.int w] ver := by
  obtain ⟨rs, aq, zs, rw, ap, pk, hB, hP, h4⟩ := id hS
  obtain ⟨k1, k2, k3, k4, k5, k6, k7, hT, hG, hM, hcl, hdf, hfr⟩ := id hB
  have hn := hG.2.1
  rcases nIk (n := 4) w (by decide) with hw | ⟨w, hw, rfl⟩
  · exact ⟨_, _, _, _, _, _, _, c_X3_step_no l D dA base n ad I J R hT w (wk_no hw), c_X4_step_no l D dA base n ad I J R hT w (wk_no hw), sim_code hS 0⟩
  · obtain ⟨z1, z2, z3⟩ := hP.1 w (by omega)
    rcases Nat.eq_zero_or_pos (zs w) with hz | hz
    · rw [hz] at z1 z2
      exact ⟨_, _, _, _, _, _, _, c_X3_step_yes l D dA base n ad I J R hT hG w hw _ _ _ _ (c_goOn_0 l D dA base n ad I J R hT w (by omega) z1), c_X4_step_yes l D dA base n ad I J R hT w hw _ _ _ _ (c_X4_go_0 l D dA base n ad (up3 I 11 0 0 0) J R hT w (by omega) (by rw [up3_c _ _ _ _ _ (by decide)]; exact z2)), sim_code hS 0⟩
    · have hB0 := sib_code hB 0
      have hP0 := pil_code hP 0
      have eA : mix (up3 I 11 0 0 0) I = I := by rw [mix_ul _ _ (by decide), mix_s]
      rcases goOn_sim l D dA base ad hB0 hP0 (p := w) (by omega) hz with ⟨g1, g2⟩ | ⟨x, aq', zs', ap', pk', I', J', R', hx, s1, s2, s3, s4, g1, g2⟩
      · have g1' := g1 I J
        have g2' := g2 (up3 I 11 0 0 0) J R hT
        rw [eA, mix_s] at g1'
        rw [mix_s, mix_s] at g2'
        exact ⟨_, _, _, _, _, _, _, c_X3_step_yes l D dA base n ad I J R hT hG w hw _ _ _ _ g1', c_X4_step_yes l D dA base n ad I J R hT w hw _ _ _ _ g2', rs, aq, zs, rw, ap, pk, hB0, hP0, h4⟩
      · have g1' := g1 I J
        have hT' := s1.2.2.2.2.2.2.2.1
        have g2' := g2 I' J' R' hT'
        rw [eA, mix_s] at g1'
        rw [mix_s, mix_s, ← up_mb _ _ (by decide)] at g2'
        exact ⟨_, _, _, _, _, _, _, c_X3_step_yes l D dA base n ad I J R hT hG w hw _ _ _ _ g1', c_X4_step_yes l D dA base n ad _ _ _ hT' w hw _ _ _ _ g2', rs, aq', zs', rw, ap', pk', s1, s2, by rw [s3 4 (by omega)]; exact h4⟩

def pre0 {α : Type} (a : α) (s : Nat → α) : Nat → α
  | 0 => a
  | t + 1 => s t
theorem run_seq (l : Launch) (D : va_G) (dA : Nat → ClassId) (base n ver : Nat) (ad : Fa) (rs : Nat → Nat) (rw : Nat → Nat → Nat) : ∀ (m : Nat) (aq zs : Nat → Nat) (ap pk : Nat → Nat → Nat) (I : Fi) (J : Fj) (R : Fr), SIB n ver rs aq rw ap I J R → PIL n rs aq rw zs pk I J R → psum (phk I) n ≤ m → ∃ (T : Nat) (σI : Nat → Fi) (σJ : Nat → Fj) (σR : Nat → Fr) (ζ : Nat → Nat), T ≤ m ∧ σI 0 = I ∧ σJ 0 = J ∧ σR 0 = R ∧ (∀ t, t ≤ T → σI t 9 4 1 = nI (ζ t) ∧ σI t 37 0 4 = nI (ζ t) ∧ ζ t ≤ 40) ∧ (∀ t, t < T → 0 < ζ t ∧ ∃ x : Int32, ¬ x = 3 ∧ GOc l D dA base n ad 4 x (σI t) (σJ t) (σR t) (σI (t + 1)) (σJ (t + 1)) (σR (t + 1)) ∧ GOm l D dA base n ad 4 x (σI t) (σJ t) (σI (t + 1)) (σJ (t + 1))) ∧ ∃ (aq' zs' : Nat → Nat) (ap' pk' : Nat → Nat → Nat), SIB n ver rs aq' rw ap' (σI T) (σJ T) (σR T) ∧ PIL n rs aq' rw zs' pk' (σI T) (σJ T) (σR T) ∧ zs' 4 = ζ T ∧ (ζ T = 0 ∨ (0 < ζ T ∧ GOc l D dA base n ad 4 3 (σI T) (σJ T) (σR T) (σI T) (σJ T) (σR T) ∧ GOm l D dA base n ad 4 3 (σI T) (σJ T) (σI T) (σJ T))) := by
  intro m
  induction m with
  | zero =>
    intro aq zs ap pk I J R hB hP hm
    obtain ⟨z1, z2, z3⟩ := hP.1 4 (by decide)
    rcases Nat.eq_zero_or_pos (zs 4) with hz | hz
    · exact ⟨0, fun _ => I, fun _ => J, fun _ => R, fun _ => zs 4, Nat.le_refl _, rfl, rfl, rfl, fun t _ => ⟨z1, z2, z3⟩, fun t ht => absurd ht (Nat.not_lt_zero _), aq, zs, ap, pk, hB, hP, rfl, Or.inl hz⟩
    · rcases goOn_sim l D dA base ad hB hP (p := 4) (by decide) hz with ⟨g1, g2⟩ | ⟨x, aq', zs', ap', pk', I', J', R', hx, s1, s2, s3, s4, g1, g2⟩
      · exact ⟨0, fun _ => I, fun _ => J, fun _ => R, fun _ => zs 4, Nat.le_refl _, rfl, rfl, rfl, fun t _ => ⟨z1, z2, z3⟩, fun t ht => absurd ht (Nat.not_lt_zero _), aq, zs, ap, pk, hB, hP, rfl, Or.inr ⟨hz, g1, g2⟩⟩
      · omega
  | succ m ih =>
    intro aq zs ap pk I J R hB hP hm
    obtain ⟨z1, z2, z3⟩ := hP.1 4 (by decide)
    rcases Nat.eq_zero_or_pos (zs 4) with hz | hz
    · exact ⟨0, fun _ => I, fun _ => J, fun _ => R, fun _ => zs 4, Nat.zero_le _, rfl, rfl, rfl, fun t _ => ⟨z1, z2, z3⟩, fun t ht => absurd ht (Nat.not_lt_zero _), aq, zs, ap, pk, hB, hP, rfl, Or.inl hz⟩
    · rcases goOn_sim l D dA base ad hB hP (p := 4) (by decide) hz with ⟨g1, g2⟩ | ⟨x, aq', zs', ap', pk', I', J', R', hx, s1, s2, s3, s4, g1, g2⟩
      · exact ⟨0, fun _ => I, fun _ => J, fun _ => R, fun _ => zs 4, Nat.zero_le _, rfl, rfl, rfl, fun t _ => ⟨z1, z2, z3⟩, fun t ht => absurd ht (Nat.not_lt_zero _), aq, zs, ap, pk, hB, hP, rfl, Or.inr ⟨hz, g1, g2⟩⟩
      · obtain ⟨T, σI, σJ, σR, ζ, t1, t2, t3, t4, t5, t6, t7⟩ := ih aq' zs' ap' pk' I' J' R' s1 s2 (by omega)
        refine ⟨T + 1, pre0 I σI, pre0 J σJ, pre0 R σR, pre0 (zs 4) ζ, by omega, rfl, rfl, rfl, fun t ht => ?_, fun t ht => ?_, t7⟩
        · cases t with
          | zero => exact ⟨z1, z2, z3⟩
          | succ t => exact t5 t (by omega)
        · cases t with
          | zero =>
            refine ⟨hz, x, hx, ?_, ?_⟩
            · show GOc l D dA base n ad 4 x I J R (σI 0) (σJ 0) (σR 0)
              rw [t2, t3, t4]; exact g1
            · show GOm l D dA base n ad 4 x I J (σI 0) (σJ 0)
              rw [t2, t3]; exact g2
          | succ t => exact t6 t (by omega)
theorem phk_le (I : Fi) (k : Nat) : phk I k ≤ 30 := by
  unfold phk; split
  · omega
  · split
    · omega
    · split <;> omega
theorem psum_b {f : Nat → Nat} (h : ∀ k, f k ≤ 30) : ∀ n, psum f n ≤ 30 * n
  | 0 => Nat.le_refl _
  | n + 1 => by have := psum_b h n; have := h n; rw [psum]; omega
theorem tka_16n (R : Fr) (p0 k : Nat) : ∀ (z : Nat) (I : Fi), (∀ j, j < z → ¬ (R 10 p0 j).getD 0 = k) → tka R p0 z I 4 k 16 = I 4 k 16
  | 0, I, _ => rfl
  | z + 1, I, h => by
    rw [tka, tka_16n R p0 k z _ (fun j hj => h j (by omega))]
    unfold ttI
    rw [up3_c _ _ _ _ _ (by decide), up3_i _ _ _ _ _ (fun e => h z (by omega) e.symm)]
/-- run waits: its pile is emptied -/
theorem clear_sim {n ver : Nat} {rs aq zs : Nat → Nat} {rw ap pk : Nat → Nat → Nat} {I : Fi} {J : Fj} {R : Fr} (hB : SIB n ver rs aq rw ap I J R) (hP : PIL n rs aq rw zs pk I J R) : ∃ X, X = up3 (mix (tka R 4 (zs 4) I) I) 37 0 4 0 ∧ SIB n ver rs aq rw ap X J R ∧ PIL n rs aq rw (u1 zs 4 0) pk X J R := by
  refine ⟨_, rfl, ?_⟩
  generalize hX : up3 (mix (tka R 4 (zs 4) I) I) 37 0 4 0 = X
  obtain ⟨k1, k2, k3, k4, k5, k6, k7, a1, a2, a3, a4, a5, a6⟩ := id hB
  have e : ∀ c b d, ¬ (c = 4 ∧ d = 16) → ¬ (c = 9 ∧ b = 4 ∧ d = 1) → ¬ (c = 37 ∧ d = 4) → X c b d = I c b d := fun c b d h1 h2 h3 => by
    rw [← hX, up3_n _ _ _ _ _ (by omega)]
    unfold mix
    split
    · exact tka_o _ _ _ _ _ _ _ h1 h2
    · rfl
  have e16 : ∀ k, X 4 k 16 = tka R 4 (zs 4) I 4 k 16 := fun k => by rw [← hX, up3_c _ _ _ _ _ (by decide), mix_a _ _ (by decide)]
  have e9 : X 9 4 1 = nI 0 := by
    rw [← hX, up3_c _ _ _ _ _ (by decide), mix_a _ _ (by decide)]
    exact tka_9 R 4 (zs 4) I (hP.1 4 (by decide)).1
  have e37 : X 37 0 4 = nI 0 := by rw [← hX, up3_s]; rfl
  have hsu : ∀ y, sure X y = sure I y := fun y => by
    unfold sure
    rw [e 4 y 1 (by omega) (by omega) (by omega), e 4 y 10 (by omega) (by omega) (by omega), e 4 y 11 (by omega) (by omega) (by omega), e 0 0 2 (by omega) (by omega) (by omega)]
  have hr : ∀ q i, i < u1 zs 4 0 q → i < zs q ∧ ¬ q = 4 := fun q i hi => by
    by_cases e2 : q = 4
    · subst e2; rw [u1_s] at hi; omega
    · rw [u1_n _ _ e2] at hi; exact ⟨hi, e2⟩
  have hnot : ∀ q i, q < 5 → i < zs q → ¬ q = 4 → ∀ j, j < zs 4 → ¬ (R 10 4 j).getD 0 = pk q i := fun q i hq hi h4 j hj he => by
    have h1 := (hP.2.1 4 j (by decide) hj).2.2.1
    rw [h1] at he
    exact h4 (hP.2.2.1 q i 4 j hq hi (by decide) hj he.symm).1
  constructor
  · refine sib_fr hB (fun c b d hp => ?_) (fun _ _ _ _ => rfl) (fun _ _ _ _ => rfl) a4 (fun c i hc hi q => ⟨?_, (a5 c i (by omega) hi q).2⟩)
    · unfold PF at hp; exact e c b d (by omega) (by omega) (by omega)
    · by_cases h : c = 4 ∧ q = 16
      · obtain ⟨rfl, rfl⟩ := h
        rw [e16]; exact tka_16 R 4 i (zs 4) I (Or.inl (a5 4 i (by omega) hi 16).1)
      · rw [e c i q h (by omega) (by omega)]; exact (a5 c i (by omega) hi q).1
  · refine ⟨fun q hq => ?_, fun q i hq hi => ?_, fun q i q2 i2 hq hi hq2 hi2 he => hP.2.2.1 q i q2 i2 hq (hr q i hi).1 hq2 (hr q2 i2 hi2).1 he, fun k hk => ?_⟩
    · by_cases e2 : q = 4
      · subst e2; rw [u1_s]; exact ⟨e9, e37, by omega⟩
      · rw [u1_n _ _ e2, e _ _ _ (by omega) (by omega) (by omega), e _ _ _ (by omega) (by omega) (by omega)]; exact hP.1 q hq
    · have h0 := hP.2.1 q i hq (hr q i hi).1
      exact PE_cong h0 ((k5.1 _ h0.1).2.2.1) (fun t ht => ((k5.1 _ h0.1).2.2.2 t ht).2.2) rfl (e _ _ _ (by omega) (by omega) (by omega)) (e _ _ _ (by omega) (by omega) (by omega)) (e _ _ _ (by omega) (by omega) (by omega)) (fun d hd => e _ _ _ (by omega) (by omega) (by omega)) (fun d => e _ _ _ (by omega) (by omega) (by omega)) (fun d => e _ _ _ (by omega) (by omega) (by omega)) rfl (e _ _ _ (by omega) (by omega) (by omega)) (e _ _ _ (by omega) (by omega) (by omega)) (e _ _ _ (by omega) (by omega) (by omega)) rfl (by rw [hsu]; exact h0.2.1) (fun y hy hsy => ⟨by rw [hsu]; exact hsy, e _ _ _ (by omega) (by omega) (by omega), rfl⟩)
    · rw [e16]
      rcases hP.2.2.2 k hk with ⟨h1, q, i, hq, hi, he⟩ | ⟨h1, h2⟩
      · by_cases h4 : q = 4
        · subst h4
          refine Or.inr ⟨tka_16 R 4 k (zs 4) I (Or.inr ⟨i, hi, by rw [← he]; exact (hP.2.1 4 i hq hi).2.2.1⟩), fun q2 i2 hq2 hi2 he2 => ?_⟩
          exact (hr q2 i2 hi2).2 (hP.2.2.1 q2 i2 4 i hq2 (hr q2 i2 hi2).1 hq hi (by rw [he2, he])).1
        · refine Or.inl ⟨?_, q, i, hq, by rw [u1_n _ _ h4]; exact hi, he⟩
          rw [tka_16n R 4 k (zs 4) I (by rw [← he]; exact hnot q i hq hi h4)]; exact h1
      · exact Or.inr ⟨tka_16 R 4 k (zs 4) I (Or.inl h1), fun q i hq hi => h2 q i hq (hr q i hi).1⟩

theorem op_run (l : Launch) (D : va_G) (dA : Nat → ClassId) (base n ver : Nat) (ad : Fa) (I : Fi) (J : Fj) (R : Fr) (hS : SIM n ver I J R) (x : Int32) : BO l D dA base n ad I J R yX3_run cX3_run 3 (some .int) 7 yX4_run cX4_run 3 4 [.int x] ver := by
  obtain ⟨rs, aq, zs, rw, ap, pk, hB, hP, h4⟩ := id hS
  obtain ⟨k1, k2, k3, k4, k5, k6, k7, hT, hG, hM, hcl, hdf, hfr⟩ := id hB
  have hn := hG.2.1
  rcases nIk x hn with hx | ⟨k, hk, rfl⟩
  · exact ⟨_, _, _, _, _, _, _, c_X3_run_out l D dA base n ad I J R hT hG x hx, c_X4_run_out l D dA base n ad I J R hT hM x hx, sim_code hS 0⟩
  · by_cases hsu : sure I k = true
    · exact ⟨_, _, _, _, _, _, _, c_X3_run_sure l D dA base n ad I J R hT hG k hk hsu, (c_X4_run_sure l D dA base n ad I J R hT hM k hk (by rw [sib_sure hB hk]; exact hsu)).cong (by rw [(k1 k hk).2.2.1]) rfl rfl rfl, sim_code hS 0⟩
    · have hsu' : sure I k = false := by simpa using hsu
      have hms : msure I k = false := by rw [sib_sure hB hk]; exact hsu'
      by_cases h16 : I 4 k 16 = 0
      · have hB0 := sib_code hB 0
        have hP0 := pil_code hP 0
        have hz1 : I 9 4 1 = nI 0 := by rw [← h4]; exact (hP.1 4 (by decide)).1
        obtain ⟨s1, s2⟩ := lay_sim hB0 hP0 (p := 4) (j := k) (by decide) hk (by omega) (by rw [sure_code]; exact hsu') (by rw [up3_c _ _ _ _ _ (by decide)]; exact h16)
        rw [h4] at s1 s2
        obtain ⟨T, σI, σJ, σR, ζ, t1, t2, t3, t4, t5, t6, aq', zs', ap', pk', t7, t8, t9, t10⟩ := run_seq l D dA base n ver ad rs rw 1200 aq _ ap _ _ _ _ s1 s2 (by have := psum_b (phk_le (mix (putI (up3 I 11 0 0 0) 4 k 0) (lyI (up3 I 11 0 0 0) 4 k 0))) n; omega)
        have hT' := t7.2.2.2.2.2.2.2.1
        have i0 : mix (σI 0) I = putI I 4 k 0 := by rw [t2, mix_l, pu_0, ← pu_m]
        have j0 : mix (σJ 0) J = up3 J 7 k 3 0 := by rw [t3, ← up_ma _ _ (by decide), mix_s]
        have hpo : pofP I (nI k) zs 5 = -1 := (pil_pof hP hn hk).mpr h16
        have hH2 : ∀ A : Fi, HI (mix A I) zs := fun A q hq => pil_HI hP q hq
        have hM2 : ∀ A : Fi, MG n (mix A I) := fun A => hM
        have hmi : ∀ A : Fi, mix A (σI 0) = lyI (up3 (mix A I) 11 0 0 0) 4 k 0 := fun A => by rw [t2, mix_r, up_mb _ _ (by decide), mx_ly]
        have hmj : ∀ A : Fj, mix A (σJ 0) = mix A J := fun A => by rw [t3, mix_ur _ _ (by decide)]
        rcases t10 with hend | ⟨hw, g1, g2⟩
        · refine ⟨_, _, _, _, _, _, _, c_X3_run_go l D dA base n ad I J R hT hG k hk hsu' h16 _ _ _ _ (c_run_end l D dA base n ad I J R hT hG k hk hz1 T (by omega) (fun t => mix (σI t) I) (fun t => mix (σJ t) J) σR ζ i0 j0 t4 (fun t ht => ⟨(t5 t ht).1, (t5 t ht).2.2⟩) (fun t ht => ?_) hend), (c_X4_run_end l D dA base n ad (mix (σI T) I) (mix (σJ T) J) (σR T) hT' (hM2 _) k hk zs (hH2 _) h4 (by rw [mx_msure]; exact hms) (by rw [pofP_c I (mix (σI T) I) _ zs (fun q => rfl) 5]; exact hpo) T (fun t => mix (σI T) (σI t)) (fun t => mix (σJ T) (σJ t)) (fun _ => σR T) ζ (hmi _) (hmj _) rfl (fun t _ => hT') (fun t ht => ⟨(t5 t ht).2.1, (t5 t ht).2.2⟩) (fun t ht => ?_) hend).cong ?_ (show _ = σI T from ?_) (show _ = σJ T from mix_s _) rfl, rs, aq', zs', rw, ap', pk', t7, t8, by rw [t9, hend]⟩
          · obtain ⟨y1, x, y2, y3, y4⟩ := t6 t ht
            exact ⟨y1, x, y2, y3 I J⟩
          · obtain ⟨y1, x, y2, y3, y4⟩ := t6 t ht
            exact ⟨y1, x, y2, y4 (σI T) (σJ T) (σR T) hT'⟩
          · show some (Value.int (σI T 26 0 k)) = some (Value.int (σI T 4 k 7))
            rw [(t7.1 k hk).2.2.1]
          · rw [mix_s]
            have h9 := (t5 T (Nat.le_refl _)).2.1
            rw [hend] at h9
            have := up3_e (σI T) 37 0 4
            rw [h9] at this
            exact this
        · obtain ⟨X, eX, x1, x2⟩ := clear_sim t7 t8
          rw [t9] at eX
          refine ⟨_, _, _, _, _, _, _, c_X3_run_go l D dA base n ad I J R hT hG k hk hsu' h16 _ _ _ _ ((c_run_wait l D dA base n ad I J R hT hG k hk hz1 T (by omega) (fun t => mix (σI t) I) (fun t => mix (σJ t) J) σR ζ i0 j0 t4 (fun t ht => ⟨(t5 t ht).1, (t5 t ht).2.2⟩) (fun t ht => ?_) hw hT' (fun j hj => ?_) (g1 I J)).cong rfl (mx_tka (σR T) 4 I (ζ T) (σI T)) rfl rfl), (c_X4_run_wait l D dA base n ad (mix (tka (σR T) 4 (ζ T) (σI T)) I) (mix (σJ T) J) (σR T) hT' (hM2 _) k hk zs (hH2 _) h4 (by rw [mx_msure]; exact hms) (by rw [pofP_c I (mix (tka (σR T) 4 (ζ T) (σI T)) I) _ zs (fun q => rfl) 5]; exact hpo) T (fun t => mix (tka (σR T) 4 (ζ T) (σI T)) (σI t)) (fun t => mix (σJ T) (σJ t)) (fun _ => σR T) ζ (hmi _) (hmj _) rfl (fun t _ => hT') (fun t ht => ⟨(t5 t ht).2.1, (t5 t ht).2.2⟩) (fun t ht => ?_) hw (g2 _ _ _ hT')).cong rfl (show _ = X from ?_) (show _ = σJ T from mix_s _) rfl, rs, aq', _, rw, ap', pk', x1, x2, u1_s _ _ _⟩
          · obtain ⟨y1, x, y2, y3, y4⟩ := t6 t ht
            exact ⟨y1, x, y2, y3 I J⟩
          · have := t8.2.1 4 j (by decide) (by rw [t9]; exact hj)
            exact ⟨pk' 4 j, this.2.2.1, this.1⟩
          · obtain ⟨y1, x, y2, y3, y4⟩ := t6 t ht
            exact ⟨y1, x, y2, y4 _ _ (σR T) hT'⟩
          · rw [eX]
      · exact ⟨_, _, _, _, _, _, _, c_X3_run_has l D dA base n ad I J R hT hG k hk hsu' h16, c_X4_run_has l D dA base n ad I J R hT hM k hk zs (pil_HI hP) hms (fun z => h16 ((pil_pof hP hn hk).mp z)), sim_code hS 0⟩

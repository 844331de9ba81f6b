theorem mix_ur {α : Type} (A B : Nat → Nat → Nat → α) {c b d : Nat} {v : α} (h : c < 11) : mix A (up3 B c b d v) = mix A B := by
  funext x y w
  unfold mix
  split
  · rfl
  · rw [up3_c _ _ _ _ _ (by omega)]
theorem sure_c {I I' : Fi} {k : Nat} (h4 : ∀ d, I' 4 k d = I 4 k d) (h0 : I' 0 0 2 = I 0 0 2) : sure I' k = sure I k := by
  unfold sure; rw [h4, h4, h4, h0]
theorem goOn_sim (l : Launch) (D : va_G) (dA : Nat → ClassId) (base : Nat) (ad : Fa) {n ver : Nat} {rs aq zs : Nat → Nat} {rw ap pk : Nat → Nat → Nat} {I : Fi} {J : Fj} {R : Fr} (hB : SIB n ver rs aq rw ap I J R) (hP : PIL n rs aq rw zs pk I J R) {p : Nat} (hp : p < 5) (h0 : 0 < zs p) : (GOc l D dA base n ad p 3 I J R I J R ∧ GOm l D dA base n ad p 3 I J I J) ∨ GOX l D dA base n ver ad rs rw zs p I J R := by
  obtain ⟨z, hz⟩ : ∃ z, zs p = z + 1 := ⟨zs p - 1, by omega⟩
  obtain ⟨hi, hsu, hR, h38, a, f, h71, h39, hf, hf6, hcase⟩ := hP.2.1 p z hp (by omega)
  obtain ⟨k1, k2, k3, k4, k5, k6, k7, hT, hG, hM, hcl, hdf, hfr⟩ := id hB
  have hn := hG.2.1
  have hs9 : I 9 p 1 = nI (z + 1) := by rw [← hz]; exact (hP.1 p hp).1
  have h37 : I 37 0 p = nI (z + 1) := by rw [← hz]; exact (hP.1 p hp).2.1
  have hz40 : z < 40 := by have := (hP.1 p hp).2.2; omega
  have h16 : I 4 (pk p z) 16 = 1 := by
    rcases hP.2.2.2 _ hi with ⟨w, -⟩ | ⟨-, w⟩
    · exact w
    · exact absurd rfl (w p z hp (by omega))
  obtain ⟨e1, e5, e7, e10, e14, e15, e8⟩ := k1 _ hi
  obtain ⟨r1, r2, r3, r4⟩ := k5.1 _ hi
  obtain ⟨q1, q2, q3, q4⟩ := k4 _ hi
  have hf2 : I 23 0 (pk p z) = nI f := by rw [← e1]; exact hf
  have hHm : ∀ Ic : Fi, HI (mix Ic I) zs := fun Ic q hq => ⟨(hP.1 q hq).2.1, (hP.1 q hq).2.2⟩
  have hpof : ∀ (Ic : Fi) (y : Nat), pofP (mix Ic I) (nI y) zs 5 = pofP I (nI y) zs 5 := fun Ic y => pofP_c I (mix Ic I) _ zs (fun q => rfl) 5
  rcases hcase with ⟨c1, c2, c3, c4⟩ | ⟨c1, c2, c3, tp, c4', c5, c6, c7⟩
  · by_cases ha : a = aq (pk p z)
    · obtain ⟨I', eI, s1, s2, s3, s4, s5⟩ := kend_sim hB hP hp hz c3
      refine Or.inr ⟨2, aq, u1 zs p z, ap, pk, I', J, R, by decide, s1, s2, fun q hq => u1_n _ _ hq, ?_, fun Im Jm => (c_goOn_c l D dA base n ad (mix I Im) (mix J Jm) R hT (pk p z) p z hi hp hs9 hz40 hR (show ¬ I 7 (pk p z) 0 = 0 by rw [c1]; decide) _ _ _ _ (c_chk_end l D dA base n ad (mix I Im) (mix J Jm) R hT (pk p z) p z hi hp hs9 hz40 hR a (aq (pk p z)) (rs (pk p z)) h71 q1 q3 r1 r3 ha)).cong rfl (by rw [up_ma _ _ (by decide), up_ma _ _ (by decide), mx_tt, eI, mix_l]; rfl) rfl rfl, fun Ic Jc Rc hRc => (c_X4_go_c l D dA base n ad (mix Ic I) (mix Jc J) Rc hRc p z zs (hHm Ic) hz hp hz40 (show I 41 0 (40 * p + z) = 0 from c2) _ _ _ _ (c_X4_check_end l D dA base n ad (mix Ic I) (mix Jc J) Rc hRc p z (pk p z) a (aq (pk p z)) zs (hHm Ic) hz hp hz40 (by omega) (show I 38 0 (40 * p + z) = nI (pk p z) from h38) (show I 39 0 (40 * p + z) = nI a from h39) (show I 30 0 (pk p z) = nI (aq (pk p z)) from q2) q3 ha)).cong rfl (by rw [up_mb _ _ (by decide), up_mb _ _ (by decide), up_mb _ _ (by decide), eI, mix_r]; rfl) rfl rfl⟩
      refine psum_lt n _ hi (fun k hk hne => phk_n (fun d => (s4 k hne d).1) (fun d => (s4 k hne d).2) s5) ?_
      rw [phk_s s3, phk_c hsu h16 c1 h71 (by omega)]; omega
    · have hka : a < aq (pk p z) := by omega
      have hpl := q4 a hka
      have hrw := r4 _ hpl.2.2
      by_cases hsy : sure I (rw (pk p z) (ap (pk p z) a)) = true
      · have e9 : I 4 (rw (pk p z) (ap (pk p z) a)) 9 = I 28 0 (rw (pk p z) (ap (pk p z) a)) := by
          refine (k3.2.2.2 _ hrw.2.2).2.2 ?_
          have := of_decide_eq_true hsy
          exact this.imp id (fun z => z.1)
        have e11 : I 4 (pk p z) 11 = I 27 0 (pk p z) := ((k3.2.2.2 _ hi).2.1 c3).1
        have hms : ∀ Ic : Fi, msure (mix Ic I) (rw (pk p z) (ap (pk p z) a)) = true := fun Ic => by rw [mx_msure, sib_sure hB hrw.2.2]; exact hsy
        by_cases hc : I 4 (pk p z) 11 < I 4 (rw (pk p z) (ap (pk p z) a)) 9
        · have hX : ∃ X, X = mix (swI I (pk p z)) (up3 (up3 I 41 0 (40 * p + z) 1) 39 0 (40 * p + z) 0) := ⟨_, rfl⟩
          obtain ⟨X, eX⟩ := hX
          have x4 : ∀ k d, X 4 k d = I 4 k d := fun k d => by rw [eX, mix_a _ _ (by decide), sw_r _ _ (by omega)]
          have x0 : X 0 0 2 = I 0 0 2 := by rw [eX, mix_a _ _ (by decide), sw_r _ _ (by omega)]
          have x7 : ∀ k d, ¬ k = pk p z → X 7 k d = I 7 k d := fun k d hk => by rw [eX, mix_a _ _ (by decide), sw_r _ _ (by omega)]
          have xs : sure X (pk p z) = false := by rw [sure_c (x4 _) x0]; exact hsu
          have x70 : X 7 (pk p z) 0 = 0 := by rw [eX]; simp [mix, swI, up3]
          have x71 : X 7 (pk p z) 1 = 0 := by rw [eX]; simp [mix, swI, up3]
          obtain ⟨s1, s2⟩ := top_sim (I' := X) (J' := up3 J 7 (pk p z) 3 0) hB hP hp hz (fun c b d y1 y2 y3 y4 => by
              rw [eX]
              by_cases hc : c < 11
              · rw [mix_a _ _ hc, sw_r _ _ y1]
              · rw [mix_b _ _ hc, up3_n _ _ _ _ _ (by omega), up3_n _ _ _ _ _ (by omega)]) (fun c b d y => up3_n _ _ _ _ _ (by omega)) (PE_new hB hP hi xs hsu hR (by rw [eX]; simpa [mix, up3] using h38) (by rw [eX]; simp [mix, up3]) x71 (by rw [eX]; simp [mix, swI, up3]) (up3_s _ _ _ _ _) (x4 _ _) (x4 _ _) (x4 _ _) (Or.inr ⟨x70, by rw [eX]; simp [mix, up3]⟩))
          refine Or.inr ⟨5, aq, zs, ap, pk, X, _, R, by decide, s1, s2, fun _ _ => rfl, ?_, fun Im Jm => (c_goOn_c l D dA base n ad (mix I Im) (mix J Jm) R hT (pk p z) p z hi hp hs9 hz40 hR (show ¬ I 7 (pk p z) 0 = 0 by rw [c1]; decide) _ _ _ _ (c_chk_chg l D dA base n ad (mix I Im) (mix J Jm) R hT (pk p z) p z hi hp hs9 hz40 hR a (aq (pk p z)) (rs (pk p z)) h71 q1 q3 r1 r3 (ap (pk p z) a) (rw (pk p z) (ap (pk p z) a)) hka hpl.1 hpl.2.2 hrw.1 hrw.2.2 (by rw [mx_sure]; exact hsy) hc)).cong rfl (by rw [mx_sw, eX, mix_l]) (by rw [up_ma _ _ (by decide)]) rfl, fun Ic Jc Rc hRc => (c_X4_go_c l D dA base n ad (mix Ic I) (mix Jc J) Rc hRc p z zs (hHm Ic) hz hp hz40 (show I 41 0 (40 * p + z) = 0 from c2) _ _ _ _ (c_X4_check_chg l D dA base n ad (mix Ic I) (mix Jc J) Rc hRc p z (pk p z) a (aq (pk p z)) zs (hHm Ic) hz hp hz40 (by omega) (show I 38 0 (40 * p + z) = nI (pk p z) from h38) (show I 39 0 (40 * p + z) = nI a from h39) (show I 30 0 (pk p z) = nI (aq (pk p z)) from q2) q3 (ap (pk p z) a) (rw (pk p z) (ap (pk p z) a)) hka (show I 31 0 (8 * pk p z + a) = nI (ap (pk p z) a) from hpl.2.1) (by omega) (show I 25 0 (8 * pk p z + ap (pk p z) a) = nI (rw (pk p z) (ap (pk p z) a)) from hrw.2.1) (by omega) (hms Ic) (show I 27 0 (pk p z) < I 28 0 (rw (pk p z) (ap (pk p z) a)) by rw [← e11, ← e9]; exact hc))).cong rfl (by rw [up_mb _ _ (by decide), up_mb _ _ (by decide), eX, mix_r]) (mix_ur _ _ (by decide)).symm rfl⟩
          refine psum_lt n _ hi (fun k hk hne => phk_n (x4 k) (fun d => x7 k d hne) x0) ?_
          rw [phk_w (a := 0) xs (by rw [x4]; exact h16) x70 x71 (by omega), phk_c hsu h16 c1 h71 (by omega)]; omega
        · have hX : ∃ X, X = mix (up3 I 7 (pk p z) 1 (nI (a + 1))) (up3 I 39 0 (40 * p + z) (nI (a + 1))) := ⟨_, rfl⟩
          obtain ⟨X, eX⟩ := hX
          have x4 : ∀ k d, X 4 k d = I 4 k d := fun k d => by rw [eX, mix_a _ _ (by decide), up3_c _ _ _ _ _ (by decide)]
          have x0 : X 0 0 2 = I 0 0 2 := by rw [eX, mix_a _ _ (by decide), up3_c _ _ _ _ _ (by decide)]
          have x7 : ∀ k d, ¬ k = pk p z → X 7 k d = I 7 k d := fun k d hk => by rw [eX, mix_a _ _ (by decide), up3_i _ _ _ _ _ hk]
          have xs : sure X (pk p z) = false := by rw [sure_c (x4 _) x0]; exact hsu
          have x70 : X 7 (pk p z) 0 = 1 := by rw [eX]; simpa [mix, up3] using c1
          have x71 : X 7 (pk p z) 1 = nI (a + 1) := by rw [eX]; simp [mix, up3]
          obtain ⟨s1, s2⟩ := top_sim (I' := X) (J' := J) hB hP hp hz (fun c b d y1 y2 y3 y4 => by
              rw [eX]
              by_cases hc : c < 11
              · rw [mix_a _ _ hc, up3_n _ _ _ _ _ (by omega)]
              · rw [mix_b _ _ hc, up3_n _ _ _ _ _ (by omega)]) (fun c b d y => rfl) ⟨hi, xs, hR, by rw [eX]; simpa [mix, up3] using h38, a + 1, f, x71, by rw [eX]; simp [mix, up3], by rw [x4]; exact hf, hf6, Or.inl ⟨x70, by rw [eX]; simpa [mix, up3] using c2, by rw [x4]; exact c3, by omega⟩⟩
          refine Or.inr ⟨4, aq, zs, ap, pk, X, J, R, by decide, s1, s2, fun _ _ => rfl, ?_, fun Im Jm => (c_goOn_c l D dA base n ad (mix I Im) (mix J Jm) R hT (pk p z) p z hi hp hs9 hz40 hR (show ¬ I 7 (pk p z) 0 = 0 by rw [c1]; decide) _ _ _ _ (c_chk_pass l D dA base n ad (mix I Im) (mix J Jm) R hT (pk p z) p z hi hp hs9 hz40 hR a (aq (pk p z)) (rs (pk p z)) h71 q1 q3 r1 r3 (ap (pk p z) a) (rw (pk p z) (ap (pk p z) a)) hka hpl.1 hpl.2.2 hrw.1 hrw.2.2 (by rw [mx_sure]; exact hsy) hc)).cong rfl (by rw [up_ma _ _ (by decide), eX, mix_l]) rfl rfl, fun Ic Jc Rc hRc => (c_X4_go_c l D dA base n ad (mix Ic I) (mix Jc J) Rc hRc p z zs (hHm Ic) hz hp hz40 (show I 41 0 (40 * p + z) = 0 from c2) _ _ _ _ (c_X4_check_pass l D dA base n ad (mix Ic I) (mix Jc J) Rc hRc p z (pk p z) a (aq (pk p z)) zs (hHm Ic) hz hp hz40 (by omega) (show I 38 0 (40 * p + z) = nI (pk p z) from h38) (show I 39 0 (40 * p + z) = nI a from h39) (show I 30 0 (pk p z) = nI (aq (pk p z)) from q2) q3 (ap (pk p z) a) (rw (pk p z) (ap (pk p z) a)) hka (show I 31 0 (8 * pk p z + a) = nI (ap (pk p z) a) from hpl.2.1) (by omega) (show I 25 0 (8 * pk p z + ap (pk p z) a) = nI (rw (pk p z) (ap (pk p z) a)) from hrw.2.1) (by omega) (hms Ic) (show ¬ I 27 0 (pk p z) < I 28 0 (rw (pk p z) (ap (pk p z) a)) by rw [← e11, ← e9]; exact hc))).cong rfl (by rw [up_mb _ _ (by decide), eX, mix_r]) rfl rfl⟩
          refine psum_lt n _ hi (fun k hk hne => phk_n (x4 k) (fun d => x7 k d hne) x0) ?_
          rw [phk_c (a := a + 1) xs (by rw [x4]; exact h16) x70 x71 (by omega), phk_c hsu h16 c1 h71 (by omega)]; omega
      · have hsy' : sure I (rw (pk p z) (ap (pk p z) a)) = false := by simpa using hsy
        have hms : ∀ Ic : Fi, msure (mix Ic I) (rw (pk p z) (ap (pk p z) a)) = false := fun Ic => by rw [mx_msure, sib_sure hB hrw.2.2]; exact hsy'
        by_cases hq : I 4 (rw (pk p z) (ap (pk p z) a)) 16 = 0
        · have hroom := pil_room hP hn hrw.2.2 hp hq
          refine Or.inr (go_lay l D dA base ad hB hP hp hrw.2.2 hroom hsy' hq (fun Im Jm => ?_) (fun Ic Jc Rc hRc => ?_))
          · rw [hz]; exact c_goOn_c l D dA base n ad (mix I Im) (mix J Jm) R hT (pk p z) p z hi hp hs9 hz40 hR (show ¬ I 7 (pk p z) 0 = 0 by rw [c1]; decide) _ _ _ _ (c_chk_put l D dA base n ad (mix I Im) (mix J Jm) R hT (pk p z) p z hi hp hs9 hz40 hR a (aq (pk p z)) (rs (pk p z)) h71 q1 q3 r1 r3 (ap (pk p z) a) (rw (pk p z) (ap (pk p z) a)) hka hpl.1 hpl.2.2 hrw.1 hrw.2.2 (by rw [mx_sure]; exact hsy') hq (by omega))
          · exact c_X4_go_c l D dA base n ad (mix Ic I) (mix Jc J) Rc hRc p z zs (hHm Ic) hz hp hz40 (show I 41 0 (40 * p + z) = 0 from c2) _ _ _ _ (c_X4_check_put l D dA base n ad (mix Ic I) (mix Jc J) Rc hRc p z (pk p z) a (aq (pk p z)) zs (hHm Ic) hz hp hz40 (by omega) (show I 38 0 (40 * p + z) = nI (pk p z) from h38) (show I 39 0 (40 * p + z) = nI a from h39) (show I 30 0 (pk p z) = nI (aq (pk p z)) from q2) q3 (ap (pk p z) a) (rw (pk p z) (ap (pk p z) a)) hka (show I 31 0 (8 * pk p z + a) = nI (ap (pk p z) a) from hpl.2.1) (by omega) (show I 25 0 (8 * pk p z + ap (pk p z) a) = nI (rw (pk p z) (ap (pk p z) a)) from hrw.2.1) (by omega) (hms Ic) (by rw [hpof]; exact (pil_pof hP hn hrw.2.2).mpr hq) hroom)
        · exact Or.inl ⟨fun Im Jm => c_goOn_c l D dA base n ad (mix I Im) (mix J Jm) R hT (pk p z) p z hi hp hs9 hz40 hR (show ¬ I 7 (pk p z) 0 = 0 by rw [c1]; decide) _ _ _ _ (c_chk_wait l D dA base n ad (mix I Im) (mix J Jm) R hT (pk p z) p z hi hp hs9 hz40 hR a (aq (pk p z)) (rs (pk p z)) h71 q1 q3 r1 r3 (ap (pk p z) a) (rw (pk p z) (ap (pk p z) a)) hka hpl.1 hpl.2.2 hrw.1 hrw.2.2 (by rw [mx_sure]; exact hsy') hq), fun Ic Jc Rc hRc => c_X4_go_c l D dA base n ad (mix Ic I) (mix Jc J) Rc hRc p z zs (hHm Ic) hz hp hz40 (show I 41 0 (40 * p + z) = 0 from c2) _ _ _ _ (c_X4_check_wait l D dA base n ad (mix Ic I) (mix Jc J) Rc hRc p z (pk p z) a (aq (pk p z)) zs (hHm Ic) hz hp hz40 (by omega) (show I 38 0 (40 * p + z) = nI (pk p z) from h38) (show I 39 0 (40 * p + z) = nI a from h39) (show I 30 0 (pk p z) = nI (aq (pk p z)) from q2) q3 (ap (pk p z) a) (rw (pk p z) (ap (pk p z) a)) hka (show I 31 0 (8 * pk p z + a) = nI (ap (pk p z) a) from hpl.2.1) (by omega) (show I 25 0 (8 * pk p z + ap (pk p z) a) = nI (rw (pk p z) (ap (pk p z) a)) from hrw.2.1) (by omega) (hms Ic) (by rw [hpof]; exact fun w => hq ((pil_pof hP hn hrw.2.2).mp w)))⟩
  · have hvv : ∀ t, t < a → J 4 (rw (pk p z) (tp t)) 8 = J 34 0 (rw (pk p z) (tp t)) := fun t ht => (k1 _ (r4 _ (c4' t ht).2.2.1).2.2).2.2.2.2.2.2
    have hTK : ∀ Ic : Fi, TKX (mix Ic I) (40 * p + z) (pk p z) a tp (fun t => rw (pk p z) (tp t)) := fun Ic t ht => ⟨(c4' t ht).2.1, by have := (c4' t ht).2.2.1; omega, (r4 _ (c4' t ht).2.2.1).2.1, show rw (pk p z) (tp t) < 40 by have := (r4 _ (c4' t ht).2.2.1).2.2; omega⟩
    have hcm : ∀ (Ic : Fi) (Jc : Fj), cms (mix Ic I 35 0 (pk p z)) f a (rs (pk p z)) (fun t => mix Jc J 34 0 (rw (pk p z) (tp t))) = cms (I 4 (pk p z) 5) f a (rs (pk p z)) (fun t => J 4 (rw (pk p z) (tp t)) 8) := fun Ic Jc => by
      rw [mix_b _ _ (by decide), e5]
      exact cms_c (fun t ht => by rw [mix_b _ _ (by decide)]; exact (hvv t ht).symm)
    by_cases hfl : I 7 (pk p z) 4 = 0
    · have hfl0 : fls (I 4 (pk p z) 5) f (rs (pk p z)) a (fun t => J 4 (rw (pk p z) (tp t)) 8) = 0 := by rw [← c6]; exact hfl
      have hnp : npl (I 7 (pk p z) 4) f a (rs (pk p z)) (J 7 (pk p z) 3) = cms (I 4 (pk p z) 5) f a (rs (pk p z)) (fun t => J 4 (rw (pk p z) (tp t)) 8) := by
        rw [c5, c6]; exact npl_cms hf6 c3 r3 hfl0
      have hno : ¬ (¬ I 4 (pk p z) 5 = 0 ∨ (f = 5 ∧ rs (pk p z) = 0) ∨ (f = 3 ∧ 1 < a ∧ J 4 (rw (pk p z) (tp (a - 1))) 8 = 0)) := fun hh => by
        unfold fls at hfl0; rw [if_pos hh] at hfl0; exact absurd hfl0 (by decide)
      have h3 : f = 3 → ∀ t, 0 < t → t < a → ¬ J 4 (rw (pk p z) (tp t)) 8 = 0 := fun h3 t h0 ht => by
        by_cases e : t + 1 = a
        · intro hh
          refine hno (Or.inr (Or.inr ⟨h3, by omega, ?_⟩))
          rw [show a - 1 = t by omega]; exact hh
        · exact c7 h3 t h0 (by omega)
      rcases cms_pl (I 4 (pk p z) 5) f a (rs (pk p z)) (fun t => J 4 (rw (pk p z) (tp t)) 8) r3 with hx | hx | ⟨pl, hpr, har, hx⟩
      · exfalso
        rw [hx] at hnp
        unfold npl at hnp
        revert hnp
        split
        · decide
        · split
          · split
            · intro h
              have h2 := congrArg Int32.toInt h
              rw [nI_toInt (by omega)] at h2
              have h3 : (-2 : Int32).toInt = -2 := by decide
              omega
            · decide
          · split
            · unfold npk
              split
              · decide
              · split
                · decide
                · rw [fmd_rmd _ _ (by omega) (by omega)]
                  obtain ⟨m, h1, h2⟩ := rmd_ix (J 7 (pk p z) 3) (rs (pk p z) - 1) (by omega) (by omega)
                  rw [h2, Int32.add_comm, nI_1]
                  intro h
                  have h2 := congrArg Int32.toInt h
                  rw [nI_toInt (by omega)] at h2
                  have h3 : (-2 : Int32).toInt = -2 := by decide
                  omega
            · intro h
              have h2 := congrArg Int32.toInt h
              rw [nI_toInt (by omega)] at h2
              have h3 : (-2 : Int32).toInt = -2 := by decide
              omega
      · have ev : ∀ (Jc : Fj), ocm f a (fun t => mix Jc J 34 0 (rw (pk p z) (tp t))) = rsl f (J 7 (pk p z) 3) := fun Jc => by
          rw [ocm_c (tw := fun t => J 4 (rw (pk p z) (tp t)) 8) (fun t ht => by rw [mix_b _ _ (by decide)]; exact (hvv t ht).symm), ocm, c5, gat_oub f _ hf6 a h3]
        obtain ⟨I', J', eI, eJ, s1, s2, s3, s4, s5⟩ := end_sim hB hP hp hz (Ic := I) (Im := I) (fun c b d _ => rfl) (fun c b d _ _ => rfl) c3 (fun t ht => ⟨(c4' t ht).1, (c4' t ht).2.1, (c4' t ht).2.2.1⟩) 1 (rsl f (J 7 (pk p z) 3)) (fun h => absurd rfl h)
        refine Or.inr ⟨2, _, _, _, pk, I', J', R, by decide, s1, s2, fun q hq => u1_n _ _ hq, ?_, fun Im Jm => (c_goOn_w l D dA base n ad (mix I Im) (mix J Jm) R hT (pk p z) p z hi hp hs9 hz40 hR (show I 7 (pk p z) 0 = 0 from c1) _ _ _ _ (c_wrk_v l D dA base n ad (mix I Im) (mix J Jm) R hT (pk p z) p z hi hp hs9 hz40 hR f a (rs (pk p z)) hf hf6 h71 (by omega) r1 r3 (show npl (I 7 (pk p z) 4) f a (rs (pk p z)) (J 7 (pk p z) 3) = -1 by rw [hnp]; exact hx) hfl)).cong rfl (by rw [mx_ew, eI, mix_l]; rfl) (by rw [up_ma _ _ (by decide), eJ, mix_l]; rfl) rfl, fun Ic Jc Rc hRc => (c_X4_go_v l D dA base n ad (mix Ic I) (mix Jc J) Rc hRc p z zs (hHm Ic) hz hp hz40 (show ¬ I 41 0 (40 * p + z) = 0 by rw [c2]; decide) f (rs (pk p z)) (pk p z) a tp (fun t => rw (pk p z) (tp t)) (by omega) (show I 38 0 (40 * p + z) = nI (pk p z) from h38) (hTK Ic) (show I 39 0 (40 * p + z) = nI a from h39) (by omega) (show I 23 0 (pk p z) = nI f from hf2) hf6 (show I 24 0 (pk p z) = nI (rs (pk p z)) from r2) r3 (by rw [hcm]; exact hx) (fun y1 t y2 y3 => show ¬ J 34 0 (rw (pk p z) (tp t)) = 0 by rw [← hvv t y3]; exact h3 y1 t y2 y3)).cong rfl (by rw [ev, mx_me, eI, mix_r]) (by rw [ev, up_mb _ _ (by decide), eJ, mix_r]) rfl⟩
        refine psum_lt n _ hi (fun k hk hne => phk_n (fun d => (s4 k hne d).1) (fun d => (s4 k hne d).2) s5) ?_
        rw [phk_s s3, phk_w hsu h16 c1 h71 (by omega)]; omega
      · have hrw := r4 _ hpr
        by_cases hsy : sure I (rw (pk p z) pl) = true
        · have hms : ∀ Ic : Fi, msure (mix Ic I) (rw (pk p z) pl) = true := fun Ic => by rw [mx_msure, sib_sure hB hrw.2.2]; exact hsy
          have e26 := (k1 _ hrw.2.2).2.2.1
          by_cases hh : I 4 (rw (pk p z) pl) 7 = 1
          · have hX : ∃ X, X = mix (up3 (up3 (up3 I 7 (pk p z) 4 (tkF f a (I 7 (pk p z) 4) (J 4 (rw (pk p z) pl) 8))) 8 (pk p z) a (nI pl)) 7 (pk p z) 1 (nI (a + 1))) (up3 (up3 I 40 0 (8 * (40 * p + z) + a) (nI pl)) 39 0 (40 * p + z) (nI (a + 1))) := ⟨_, rfl⟩
            obtain ⟨X, eX⟩ := hX
            have x4 : ∀ k d, X 4 k d = I 4 k d := fun k d => by rw [eX, mix_a _ _ (by decide), up3_c _ _ _ _ _ (by decide), up3_c _ _ _ _ _ (by decide), up3_c _ _ _ _ _ (by decide)]
            have x0 : X 0 0 2 = I 0 0 2 := by rw [eX, mix_a _ _ (by decide), up3_c _ _ _ _ _ (by decide), up3_c _ _ _ _ _ (by decide), up3_c _ _ _ _ _ (by decide)]
            have x7 : ∀ k d, ¬ k = pk p z → X 7 k d = I 7 k d := fun k d hk => by rw [eX, mix_a _ _ (by decide), up3_i _ _ _ _ _ hk, up3_i _ _ _ _ _ hk, up3_i _ _ _ _ _ hk]
            have xs : ∀ k, sure X k = sure I k := fun k => sure_c (x4 _) x0
            have x70 : X 7 (pk p z) 0 = 0 := by rw [eX]; simpa [mix, up3] using c1
            have x71 : X 7 (pk p z) 1 = nI (a + 1) := by rw [eX]; simp [mix, up3]
            have tv : ∀ t, t < a → (u1 tp a pl) t = tp t := fun t ht => u1_n _ _ (by omega)
            have hE : PE n rs aq rw X (up3 J 7 (pk p z) 3 (tkG f a (J 7 (pk p z) 3) (J 4 (rw (pk p z) pl) 8))) R p z (pk p z) := by
              refine ⟨hi, by rw [xs]; exact hsu, hR, by rw [eX]; simpa [mix, up3] using h38, a + 1, f, x71, by rw [eX]; simp [mix, up3], by rw [x4]; exact hf, hf6, Or.inr ⟨x70, by rw [eX]; simpa [mix, up3] using c2, har, u1 tp a pl, fun t ht => ?_, ?_, ?_, ?_⟩⟩
              · by_cases e : t = a
                · subst e
                  rw [u1_s]
                  exact ⟨by rw [eX]; simp [mix, up3], by rw [eX]; simp [mix, up3], hpr, by rw [xs]; exact hsy, by rw [x4]; exact hh⟩
                · rw [tv t (by omega)]
                  have h9 := c4' t (by omega)
                  refine ⟨?_, ?_, h9.2.2.1, by rw [xs]; exact h9.2.2.2.1, by rw [x4]; exact h9.2.2.2.2⟩
                  · rw [eX, mix_a _ _ (by decide), up3_c _ _ _ _ _ (by decide), up3_k _ _ _ _ _ e, up3_c _ _ _ _ _ (by decide)]; exact h9.1
                  · rw [eX, mix_b _ _ (by decide), up3_c _ _ _ _ _ (by decide), up3_k _ _ _ _ _ (by omega)]; exact h9.2.1
              · rw [up3_s, gat, u1_s, up3_c _ _ _ _ _ (by decide), c5]
                congr 1
                exact gat_c a (fun t ht => by rw [tv t ht, up3_c _ _ _ _ _ (by decide)])
              · have y : X 7 (pk p z) 4 = tkF f a (I 7 (pk p z) 4) (J 4 (rw (pk p z) pl) 8) := by rw [eX]; simp [mix, up3]
                rw [y, x4, hfl, fls_c (tw := fun t => J 4 (rw (pk p z) (u1 tp a pl t)) 8) (fun t _ => up3_c _ _ _ _ _ (by decide))]
                unfold tkF fls
                simp only [Nat.add_sub_cancel, u1_s]
                by_cases hz3 : f = 3 ∧ ¬ a = 0 ∧ J 4 (rw (pk p z) pl) 8 = 0
                · rw [if_pos hz3, if_pos (Or.inr (Or.inr ⟨hz3.1, by omega, hz3.2.2⟩))]
                · rw [if_neg hz3, if_neg]
                  rintro (w | w | w)
                  · exact hno (Or.inl w)
                  · exact hno (Or.inr (Or.inl w))
                  · exact hz3 ⟨w.1, by omega, w.2.2⟩
              · intro hf3 t ht0 ht1
                rw [tv t (by omega), up3_c _ _ _ _ _ (by decide)]
                exact h3 hf3 t ht0 (by omega)
            obtain ⟨s1, s2⟩ := top_sim (I' := X) (J' := up3 J 7 (pk p z) 3 (tkG f a (J 7 (pk p z) 3) (J 4 (rw (pk p z) pl) 8))) hB hP hp hz (fun c b d y1 y2 y3 y4 => by
                rw [eX]
                by_cases hc : c < 11
                · rw [mix_a _ _ hc, up3_n _ _ _ _ _ (by omega), up3_n _ _ _ _ _ (by omega), up3_n _ _ _ _ _ (by omega)]
                · rw [mix_b _ _ hc, up3_n _ _ _ _ _ (by omega), up3_n _ _ _ _ _ (fun w => y4 ⟨w.1, a, by omega, w.2.2⟩)]) (fun c b d y => up3_n _ _ _ _ _ (by omega)) hE
            refine Or.inr ⟨6, aq, zs, ap, pk, X, _, R, by decide, s1, s2, fun _ _ => rfl, ?_, fun Im Jm => (c_goOn_w l D dA base n ad (mix I Im) (mix J Jm) R hT (pk p z) p z hi hp hs9 hz40 hR (show I 7 (pk p z) 0 = 0 from c1) _ _ _ _ (c_wrk_take l D dA base n ad (mix I Im) (mix J Jm) R hT (pk p z) p z hi hp hs9 hz40 hR f a (rs (pk p z)) hf hf6 h71 (by omega) r1 r3 pl (rw (pk p z) pl) (show npl (I 7 (pk p z) 4) f a (rs (pk p z)) (J 7 (pk p z) 3) = nI pl by rw [hnp]; exact hx) hpr hrw.1 hrw.2.2 (by omega) (by rw [mx_sure]; exact hsy) hh)).cong rfl (by rw [up_ma _ _ (by decide), up_ma _ _ (by decide), up_ma _ _ (by decide), eX, mix_l]; rfl) (by rw [up_ma _ _ (by decide)]; rfl) rfl, fun Ic Jc Rc hRc => (c_X4_go_take l D dA base n ad (mix Ic I) (mix Jc J) Rc hRc p z zs (hHm Ic) hz hp hz40 (show ¬ I 41 0 (40 * p + z) = 0 by rw [c2]; decide) f (rs (pk p z)) (pk p z) a tp (fun t => rw (pk p z) (tp t)) (by omega) (show I 38 0 (40 * p + z) = nI (pk p z) from h38) (hTK Ic) (show I 39 0 (40 * p + z) = nI a from h39) (by omega) (show I 23 0 (pk p z) = nI f from hf2) hf6 (show I 24 0 (pk p z) = nI (rs (pk p z)) from r2) r3 pl (rw (pk p z) pl) (by rw [hcm]; exact hx) (by omega) (show I 25 0 (8 * pk p z + pl) = nI (rw (pk p z) pl) from hrw.2.1) (by omega) (by omega) (hms Ic) (show I 26 0 (rw (pk p z) pl) = 1 by rw [← e26]; exact hh)).cong rfl (by rw [up_mb _ _ (by decide), up_mb _ _ (by decide), eX, mix_r]) (mix_ur _ _ (by decide)).symm rfl⟩
            refine psum_lt n _ hi (fun k hk hne => phk_n (x4 k) (fun d => x7 k d hne) x0) ?_
            rw [phk_w (a := a + 1) (by rw [xs]; exact hsu) (by rw [x4]; exact h16) x70 x71 (by omega), phk_w hsu h16 c1 h71 (by omega)]; omega
          · obtain ⟨I', J', eI, eJ, s1, s2, s3, s4, s5⟩ := end_sim hB hP hp hz (Ic := up3 (up3 I 8 (pk p z) a (nI pl)) 7 (pk p z) 1 (nI (a + 1))) (Im := up3 (up3 I 40 0 (8 * (40 * p + z) + a) (nI pl)) 39 0 (40 * p + z) (nI (a + 1))) (a := a + 1) (tp := u1 tp a pl) (fun c b d hh => by rw [up3_n _ _ _ _ _ (by omega), up3_n _ _ _ _ _ (by omega)]) (fun c b d y1 y2 => by rw [up3_n _ _ _ _ _ (by omega), up3_n _ _ _ _ _ (fun w => y2 ⟨w.1, a, by omega, w.2.2⟩)]) har (fun t ht => by
                by_cases e : t = a
                · subst e
                  rw [u1_s]
                  exact ⟨by simp [up3], by simp [up3], hpr⟩
                · rw [u1_n _ _ e]
                  have h9 := c4' t (by omega)
                  refine ⟨?_, ?_, h9.2.2.1⟩
                  · rw [up3_c _ _ _ _ _ (by decide), up3_k _ _ _ _ _ e]; exact h9.1
                  · rw [up3_c _ _ _ _ _ (by decide), up3_k _ _ _ _ _ (by omega)]; exact h9.2.1) 3 0 (fun _ => rfl)
            refine Or.inr ⟨2, _, _, _, pk, I', J', R, by decide, s1, s2, fun q hq => u1_n _ _ hq, ?_, fun Im Jm => (c_goOn_w l D dA base n ad (mix I Im) (mix J Jm) R hT (pk p z) p z hi hp hs9 hz40 hR (show I 7 (pk p z) 0 = 0 from c1) _ _ _ _ (c_wrk_by l D dA base n ad (mix I Im) (mix J Jm) R hT (pk p z) p z hi hp hs9 hz40 hR f a (rs (pk p z)) hf hf6 h71 (by omega) r1 r3 pl (rw (pk p z) pl) (show npl (I 7 (pk p z) 4) f a (rs (pk p z)) (J 7 (pk p z) 3) = nI pl by rw [hnp]; exact hx) hpr hrw.1 hrw.2.2 (by omega) (by rw [mx_sure]; exact hsy) hh)).cong rfl (by rw [up_ma _ _ (by decide), up_ma _ _ (by decide), mx_ew, eI, mix_l]) (by rw [up_ma _ _ (by decide), eJ, mix_l]) rfl, fun Ic Jc Rc hRc => (c_X4_go_by l D dA base n ad (mix Ic I) (mix Jc J) Rc hRc p z zs (hHm Ic) hz hp hz40 (show ¬ I 41 0 (40 * p + z) = 0 by rw [c2]; decide) f (rs (pk p z)) (pk p z) a tp (fun t => rw (pk p z) (tp t)) (by omega) (show I 38 0 (40 * p + z) = nI (pk p z) from h38) (hTK Ic) (show I 39 0 (40 * p + z) = nI a from h39) (by omega) (show I 23 0 (pk p z) = nI f from hf2) hf6 (show I 24 0 (pk p z) = nI (rs (pk p z)) from r2) r3 pl (rw (pk p z) pl) (by rw [hcm]; exact hx) (by omega) (show I 25 0 (8 * pk p z + pl) = nI (rw (pk p z) pl) from hrw.2.1) (by omega) (by omega) (hms Ic) (show ¬ I 26 0 (rw (pk p z) pl) = 1 by rw [← e26]; exact hh)).cong rfl (by rw [up_mb _ _ (by decide), up_mb _ _ (by decide), mx_me, eI, mix_r]) (by rw [up_mb _ _ (by decide), eJ, mix_r]) rfl⟩
            refine psum_lt n _ hi (fun k hk hne => phk_n (fun d => (s4 k hne d).1) (fun d => (s4 k hne d).2) s5) ?_
            rw [phk_s s3, phk_w hsu h16 c1 h71 (by omega)]; omega
        · have hsy' : sure I (rw (pk p z) pl) = false := by simpa using hsy
          have hms : ∀ Ic : Fi, msure (mix Ic I) (rw (pk p z) pl) = false := fun Ic => by rw [mx_msure, sib_sure hB hrw.2.2]; exact hsy'
          by_cases hq : I 4 (rw (pk p z) pl) 16 = 0
          · have hroom := pil_room hP hn hrw.2.2 hp hq
            refine Or.inr (go_lay l D dA base ad hB hP hp hrw.2.2 hroom hsy' hq (fun Im Jm => ?_) (fun Ic Jc Rc hRc => ?_))
            · rw [hz]; exact c_goOn_w l D dA base n ad (mix I Im) (mix J Jm) R hT (pk p z) p z hi hp hs9 hz40 hR (show I 7 (pk p z) 0 = 0 from c1) _ _ _ _ (c_wrk_put l D dA base n ad (mix I Im) (mix J Jm) R hT (pk p z) p z hi hp hs9 hz40 hR f a (rs (pk p z)) hf hf6 h71 (by omega) r1 r3 pl (rw (pk p z) pl) (show npl (I 7 (pk p z) 4) f a (rs (pk p z)) (J 7 (pk p z) 3) = nI pl by rw [hnp]; exact hx) hpr hrw.1 hrw.2.2 (by rw [mx_sure]; exact hsy') hq (by omega))
            · exact c_X4_go_put l D dA base n ad (mix Ic I) (mix Jc J) Rc hRc p z zs (hHm Ic) hz hp hz40 (show ¬ I 41 0 (40 * p + z) = 0 by rw [c2]; decide) f (rs (pk p z)) (pk p z) a tp (fun t => rw (pk p z) (tp t)) (by omega) (show I 38 0 (40 * p + z) = nI (pk p z) from h38) (hTK Ic) (show I 39 0 (40 * p + z) = nI a from h39) (by omega) (show I 23 0 (pk p z) = nI f from hf2) hf6 (show I 24 0 (pk p z) = nI (rs (pk p z)) from r2) r3 pl (rw (pk p z) pl) (by rw [hcm]; exact hx) (by omega) (show I 25 0 (8 * pk p z + pl) = nI (rw (pk p z) pl) from hrw.2.1) (by omega) (hms Ic) (by rw [hpof]; exact (pil_pof hP hn hrw.2.2).mpr hq) hroom
          · exact Or.inl ⟨fun Im Jm => c_goOn_w l D dA base n ad (mix I Im) (mix J Jm) R hT (pk p z) p z hi hp hs9 hz40 hR (show I 7 (pk p z) 0 = 0 from c1) _ _ _ _ (c_wrk_wait l D dA base n ad (mix I Im) (mix J Jm) R hT (pk p z) p z hi hp hs9 hz40 hR f a (rs (pk p z)) hf hf6 h71 (by omega) r1 r3 pl (rw (pk p z) pl) (show npl (I 7 (pk p z) 4) f a (rs (pk p z)) (J 7 (pk p z) 3) = nI pl by rw [hnp]; exact hx) hpr hrw.1 hrw.2.2 (by rw [mx_sure]; exact hsy') hq), fun Ic Jc Rc hRc => c_X4_go_wait l D dA base n ad (mix Ic I) (mix Jc J) Rc hRc p z zs (hHm Ic) hz hp hz40 (show ¬ I 41 0 (40 * p + z) = 0 by rw [c2]; decide) f (rs (pk p z)) (pk p z) a tp (fun t => rw (pk p z) (tp t)) (by omega) (show I 38 0 (40 * p + z) = nI (pk p z) from h38) (hTK Ic) (show I 39 0 (40 * p + z) = nI a from h39) (by omega) (show I 23 0 (pk p z) = nI f from hf2) hf6 (show I 24 0 (pk p z) = nI (rs (pk p z)) from r2) r3 pl (rw (pk p z) pl) (by rw [hcm]; exact hx) (by omega) (show I 25 0 (8 * pk p z + pl) = nI (rw (pk p z) pl) from hrw.2.1) (by omega) (hms Ic) (by rw [hpof]; exact fun w => hq ((pil_pof hP hn hrw.2.2).mp w))⟩
    · have hcf : cms (I 4 (pk p z) 5) f a (rs (pk p z)) (fun t => J 4 (rw (pk p z) (tp t)) 8) = -2 := cms_fail (by rw [← c6]; exact hfl)
      have hnp : npl (I 7 (pk p z) 4) f a (rs (pk p z)) (J 7 (pk p z) 3) = -1 := by unfold npl; rw [if_pos (Or.inl hfl)]
      obtain ⟨I', J', eI, eJ, s1, s2, s3, s4, s5⟩ := end_sim hB hP hp hz (Ic := I) (Im := I) (fun c b d _ => rfl) (fun c b d _ _ => rfl) c3 (fun t ht => ⟨(c4' t ht).1, (c4' t ht).2.1, (c4' t ht).2.2.1⟩) 2 0 (fun _ => rfl)
      refine Or.inr ⟨2, _, _, _, pk, I', J', R, by decide, s1, s2, fun q hq => u1_n _ _ hq, ?_, fun Im Jm => (c_goOn_w l D dA base n ad (mix I Im) (mix J Jm) R hT (pk p z) p z hi hp hs9 hz40 hR (show I 7 (pk p z) 0 = 0 from c1) _ _ _ _ (c_wrk_f l D dA base n ad (mix I Im) (mix J Jm) R hT (pk p z) p z hi hp hs9 hz40 hR f a (rs (pk p z)) hf hf6 h71 (by omega) r1 r3 (show npl (I 7 (pk p z) 4) f a (rs (pk p z)) (J 7 (pk p z) 3) = -1 from hnp) hfl)).cong rfl (by rw [mx_ew, eI, mix_l]) (by rw [up_ma _ _ (by decide), eJ, mix_l]) rfl, fun Ic Jc Rc hRc => (c_X4_go_f l D dA base n ad (mix Ic I) (mix Jc J) Rc hRc p z zs (hHm Ic) hz hp hz40 (show ¬ I 41 0 (40 * p + z) = 0 by rw [c2]; decide) f (rs (pk p z)) (pk p z) a tp (fun t => rw (pk p z) (tp t)) (by omega) (show I 38 0 (40 * p + z) = nI (pk p z) from h38) (hTK Ic) (show I 39 0 (40 * p + z) = nI a from h39) (by omega) (show I 23 0 (pk p z) = nI f from hf2) hf6 (show I 24 0 (pk p z) = nI (rs (pk p z)) from r2) r3 (by rw [hcm]; exact hcf)).cong rfl (by rw [mx_me, eI, mix_r]) (by rw [up_mb _ _ (by decide), eJ, mix_r]) rfl⟩
      refine psum_lt n _ hi (fun k hk hne => phk_n (fun d => (s4 k hne d).1) (fun d => (s4 k hne d).2) s5) ?_
      rw [phk_s s3, phk_w hsu h16 c1 h71 (by omega)]; omega

/-! PURE: numbers of a work, the class's and the reference's, are the same -/
/-- what the class has gathered after a were taken -/
def gat (f : Nat) (tv : Nat → Int64) : Nat → Int64
  | 0 => 0
  | t + 1 => tkG f t (gat f tv t) (tv t)
theorem i64_m1 (v : Int64) : v / (-1) = -v := by
  apply Int64.toInt_inj.mp
  have h : (-1 : Int64).toInt = -1 := by decide
  rw [Int64.toInt_div, h, Int.tdiv_neg, Int.tdiv_one, Int64.toInt_neg]
theorem gat_oub (f : Nat) (tv : Nat → Int64) (hf : f < 6) : ∀ a, (f = 3 → ∀ i, 0 < i → i < a → ¬ tv i = 0) → gat f tv a = oub f tv (oc0 f a tv) (a - 1) := by
  intro a h3
  rcases Nat.eq_zero_or_pos a with ha | ha
  · subst ha; rfl
  obtain ⟨b, rfl⟩ : ∃ b, a = b + 1 := ⟨a - 1, by omega⟩
  rw [Nat.add_sub_cancel]
  by_cases h12 : f = 1 ∨ f = 2
  · have h1 : ∀ v t, oub f tv v t = v := by
      intro v t
      induction t with
      | zero => rfl
      | succ t ih =>
        rw [oub, ih, ost, if_neg (by omega), if_neg (by omega), if_neg (by omega)]
    rw [h1, oc0, if_neg (by omega), if_pos h12, gat, tkG, if_pos h12, Nat.add_sub_cancel]
  · have h0 : oc0 f (b + 1) tv = tv 0 := by rw [oc0, if_neg (by omega), if_neg h12]
    rw [h0]
    clear h0
    induction b with
    | zero =>
      rw [gat, gat, tkG, if_neg h12]
      by_cases hf3 : f = 3
      · rw [if_pos hf3, if_pos rfl]; rfl
      · rw [if_neg hf3]
        by_cases hf5 : f = 5
        · rw [if_pos hf5, if_pos rfl]; rfl
        · rw [if_neg hf5, Int64.zero_add]; rfl
    | succ b ih =>
      have ih := ih (fun h i h1 h2 => h3 h i h1 (by omega)) (by omega)
      rw [gat, ih, oub, tkG, if_neg h12, ost]
      by_cases hf3 : f = 3
      · have hz := h3 hf3 (b + 1) (by omega) (by omega)
        rw [if_pos hf3, if_neg (by omega), if_neg hz, if_neg (by omega), if_pos hf3]
        by_cases hm : tv (b + 1) = -1
        · rw [if_pos hm, hm, i64_m1]
        · rw [if_neg hm]
      · rw [if_neg hf3]
        by_cases hf5 : f = 5
        · rw [if_pos hf5, if_neg (show ¬ b + 1 = 0 by omega), if_neg (show ¬ (f = 0 ∨ f = 4) by omega), if_neg hf3, if_pos hf5]
          by_cases h1 : tv (b + 1) < oub f tv (tv 0) b
          · rw [if_pos h1, if_neg (fun h2 => by
              rw [Int64.lt_iff_toInt_lt] at h1 h2; omega)]
          · rw [if_neg h1]
            by_cases h2 : oub f tv (tv 0) b < tv (b + 1)
            · rw [if_pos h2]
            · rw [if_neg h2]
              apply Int64.toInt_inj.mp
              rw [Int64.lt_iff_toInt_lt] at h1 h2; omega
        · rw [if_neg hf5, if_pos (by omega)]
theorem bmod64 (x : Int) (h1 : -9223372036854775808 ≤ x) (h2 : x < 9223372036854775808) : x.bmod (2 ^ 64) = x := by
  apply Int.bmod_eq_of_le <;> omega
theorem bmod32 (x : Int) (h1 : -2147483648 ≤ x) (h2 : x < 2147483648) : x.bmod (2 ^ 32) = x := by
  apply Int.bmod_eq_of_le <;> omega
theorem rem_small (v : Int64) (q : Nat) (hq : q < 8) (h0 : 0 < q) : ∃ M : Int, (v - v / lN q * lN q).toInt = M ∧ -(q : Int) < M ∧ M < q ∧ (v.toInt < 0 → M ≤ 0) ∧ (0 ≤ v.toInt → 0 ≤ M) := by
  have hd : (lN q).toInt = (q : Int) := lN_toInt (by omega)
  have hb := Int64.toInt_lt v
  have ha := Int64.le_toInt v
  have hD : ∃ Dv : Int, v.toInt.tdiv q = Dv ∧ -(q : Int) < v.toInt - Dv * q ∧ v.toInt - Dv * q < q ∧ (v.toInt < 0 → v.toInt - Dv * q ≤ 0 ∧ Dv ≤ 0 ∧ v.toInt ≤ Dv) ∧ (0 ≤ v.toInt → 0 ≤ v.toInt - Dv * q ∧ 0 ≤ Dv ∧ Dv ≤ v.toInt) := by
    refine ⟨_, rfl, ?_⟩
    by_cases hv : 0 ≤ v.toInt
    · rw [Int.tdiv_eq_ediv_of_nonneg hv]
      rcases (show q = 1 ∨ q = 2 ∨ q = 3 ∨ q = 4 ∨ q = 5 ∨ q = 6 ∨ q = 7 by omega) with rfl | rfl | rfl | rfl | rfl | rfl | rfl <;> omega
    · have e : v.toInt.tdiv q = -((-v.toInt) / q) := by
        rw [← Int.tdiv_eq_ediv_of_nonneg (by omega : 0 ≤ -v.toInt), Int.neg_tdiv, Int.neg_neg]
      rw [e]
      rcases (show q = 1 ∨ q = 2 ∨ q = 3 ∨ q = 4 ∨ q = 5 ∨ q = 6 ∨ q = 7 by omega) with rfl | rfl | rfl | rfl | rfl | rfl | rfl <;> omega
  obtain ⟨Dv, e1, e2, e3, e4, e5⟩ := hD
  refine ⟨v.toInt - Dv * q, ?_, e2, e3, fun h => (e4 h).1, fun h => (e5 h).1⟩
  have hr : -9223372036854775808 ≤ Dv ∧ Dv < 9223372036854775808 ∧ -9223372036854775808 ≤ Dv * q ∧ Dv * q < 9223372036854775808 := by
    by_cases hv : 0 ≤ v.toInt
    · have := e5 hv
      omega
    · have := e4 (by omega)
      omega
  rw [Int64.toInt_sub, Int64.toInt_mul, Int64.toInt_div, hd, e1, bmod64 Dv hr.1 hr.2.1, bmod64 (Dv * q) hr.2.2.1 hr.2.2.2]
  exact bmod64 _ (by omega) (by omega)
theorem xor_neg (v : Int64) (q : Nat) (hq : q < 8) : (v ^^^ lN q) < 0 ↔ v.toInt < 0 := by
  have h1 : ∀ x : Int64, x < 0 ↔ x.toBitVec.msb = true := fun x => by
    rw [Int64.lt_iff_toInt_lt, Int64.toInt_zero, BitVec.msb_eq_toInt, decide_eq_true_eq]
    rfl
  rw [h1]
  have h2 : (v ^^^ lN q).toBitVec = v.toBitVec ^^^ (lN q).toBitVec := rfl
  rw [h2, BitVec.msb_xor]
  have h3 : (lN q).toBitVec.msb = false := by
    rcases (show q = 0 ∨ q = 1 ∨ q = 2 ∨ q = 3 ∨ q = 4 ∨ q = 5 ∨ q = 6 ∨ q = 7 by omega) with rfl | rfl | rfl | rfl | rfl | rfl | rfl | rfl <;> decide +kernel
  rw [h3, Bool.xor_false, ← h1, Int64.lt_iff_toInt_lt, Int64.toInt_zero]
theorem fmd_rmd (v : Int64) (q : Nat) (hq : q < 8) (h0 : 0 < q) : (fmd v (lN q)).toInt32 = rmd v q := by
  obtain ⟨M, e1, e2, e3, e4, e5⟩ := rem_small v q hq h0
  have hd : (lN q).toInt = (q : Int) := lN_toInt (by omega)
  have hm32 : (v - v / lN q * lN q).toInt32.toInt = M := by
    rw [Int64.toInt_toInt32, e1]
    exact bmod32 M (by omega) (by omega)
  apply Int32.toInt_inj.mp
  unfold fmd rmd
  by_cases hc : (v ^^^ lN q) < 0 ∧ ¬ (v - v / lN q * lN q = 0)
  · have hv := (xor_neg v q hq).mp hc.1
    have hM0 : M ≠ 0 := fun h => hc.2 (Int64.toInt_inj.mp (by rw [e1, h]; rfl))
    have := e4 hv
    rw [if_pos hc, if_pos (by rw [Int32.lt_iff_toInt_lt, hm32, Int32.toInt_zero]; omega), Int64.toInt_toInt32, Int64.toInt_add, e1, hd, Int32.toInt_add, hm32, nI_toInt (by omega), bmod64 _ (by omega) (by omega)]
  · have hM : 0 ≤ M := by
      by_cases hv : v.toInt < 0
      · have hz : v - v / lN q * lN q = 0 := Decidable.of_not_not (fun h => hc ⟨(xor_neg v q hq).mpr hv, h⟩)
        rw [hz, Int64.toInt_zero] at e1
        omega
      · exact e5 (by omega)
    rw [if_neg hc, if_neg (by rw [Int32.lt_iff_toInt_lt, hm32, Int32.toInt_zero]; omega)]
/-- the class's mark that the function has failed -/
def fls (sp : Int32) (f r a : Nat) (tv : Nat → Int64) : Int32 := if ¬ sp = 0 ∨ (f = 5 ∧ r = 0) ∨ (f = 3 ∧ 1 < a ∧ tv (a - 1) = 0) then 1 else 0
theorem cms_fail {sp : Int32} {f a r : Nat} {tv : Nat → Int64} (h : ¬ fls sp f r a tv = 0) : cms sp f a r tv = -2 := by
  unfold fls at h
  by_cases hc : ¬ sp = 0 ∨ (f = 5 ∧ r = 0) ∨ (f = 3 ∧ 1 < a ∧ tv (a - 1) = 0)
  · unfold cms
    by_cases h1 : ¬ sp = 0 ∨ (f = 5 ∧ r = 0)
    · rw [if_pos h1]
    · have h2 : f = 3 ∧ 1 < a ∧ tv (a - 1) = 0 := by
        rcases hc with h | h | h
        · exact absurd (Or.inl h) h1
        · exact absurd (Or.inr h) h1
        · exact h
      rw [if_neg h1, if_neg (by omega), if_pos h2]
  · rw [if_neg hc] at h; exact absurd rfl h
theorem npl_cms {sp : Int32} {f a r : Nat} {tv : Nat → Int64} (hf : f < 6) (har : a ≤ r) (hr8 : r ≤ 8) (h : fls sp f r a tv = 0) : npl (fls sp f r a tv) f a r (gat f tv a) = cms sp f a r tv := by
  have hc : ¬ (¬ sp = 0 ∨ (f = 5 ∧ r = 0) ∨ (f = 3 ∧ 1 < a ∧ tv (a - 1) = 0)) := fun hc => by
    unfold fls at h; rw [if_pos hc] at h; exact absurd h (by decide)
  rw [h]
  unfold npl cms
  rw [if_neg (show ¬ (¬ sp = 0 ∨ (f = 5 ∧ r = 0)) from fun z => hc (z.elim Or.inl (fun w => Or.inr (Or.inl w))))]
  by_cases hra : r ≤ a
  · rw [if_pos (Or.inr hra)]
    have e : a = r := by omega
    subst e
    by_cases h1 : f = 1 ∧ 0 < a ∧ ¬ tv (a - 1) = 0
    · rw [if_pos h1]
    · rw [if_neg h1, if_neg (fun z => hc (Or.inr (Or.inr z)))]
      by_cases h2 : ¬ f = 2 ∨ a = 0
      · rw [if_pos h2, if_neg (Nat.lt_irrefl a)]
      · rw [if_neg h2, if_neg (by omega)]
  · rw [if_neg (fun z => z.elim (fun w => w rfl) hra)]
    by_cases h1 : f = 1
    · subst h1
      rw [if_pos rfl]
      rcases Nat.eq_zero_or_pos a with ha | ha
      · subst ha
        rw [if_pos (show gat 1 tv 0 = 0 from rfl), if_neg (show ¬ ((1 : Nat) = 1 ∧ 0 < 0 ∧ ¬ tv (0 - 1) = 0) by omega), if_neg (show ¬ ((1 : Nat) = 3 ∧ 1 < 0 ∧ tv (0 - 1) = 0) by omega), if_pos (show ¬ (1 : Nat) = 2 ∨ 0 = 0 by omega), if_pos (show 0 < r by omega)]
      · obtain ⟨b, rfl⟩ : ∃ b, a = b + 1 := ⟨a - 1, by omega⟩
        have eg : gat 1 tv (b + 1) = tv b := by rw [gat, tkG, if_pos (Or.inl rfl)]
        rw [eg, Nat.add_sub_cancel]
        by_cases hz : tv b = 0
        · rw [if_pos hz, if_neg (show ¬ ((1 : Nat) = 1 ∧ 0 < b + 1 ∧ ¬ tv b = 0) from fun z => z.2.2 hz), if_neg (show ¬ ((1 : Nat) = 3 ∧ 1 < b + 1 ∧ tv b = 0) by omega), if_pos (show ¬ (1 : Nat) = 2 ∨ b + 1 = 0 by omega), if_pos (show b + 1 < r by omega)]
        · rw [if_neg hz, if_pos ⟨rfl, by omega, hz⟩]
    · rw [if_neg h1, if_neg (show ¬ (f = 1 ∧ 0 < a ∧ ¬ tv (a - 1) = 0) from fun z => h1 z.1), if_neg (show ¬ (f = 3 ∧ 1 < a ∧ tv (a - 1) = 0) from fun z => hc (Or.inr (Or.inr z)))]
      by_cases h2 : f = 2
      · subst h2
        rw [if_pos rfl]
        unfold npk
        rcases Nat.eq_zero_or_pos a with ha | ha
        · subst ha
          rw [if_pos rfl, if_pos (show ¬ (2 : Nat) = 2 ∨ 0 = 0 from Or.inr rfl), if_pos (show 0 < r by omega)]
          rfl
        · rw [if_neg (show ¬ a = 0 by omega), if_neg (show ¬ (¬ (2 : Nat) = 2 ∨ a = 0) by omega)]
          by_cases ha1 : a = 1
          · subst ha1
            rw [if_neg (show ¬ (1 < 1 ∨ r - 1 = 0) by omega), if_pos (show 1 = 1 ∧ 1 < r by omega)]
            have eg : gat 2 tv 1 = tv 0 := by rw [gat, tkG, if_pos (Or.inr rfl)]
            rw [eg, fmd_rmd _ _ (by omega) (by omega)]
          · rw [if_pos (show 1 < a ∨ r - 1 = 0 by omega), if_neg (show ¬ (a = 1 ∧ 1 < r) from fun z => ha1 z.1)]
      · rw [if_neg h2, if_pos (show ¬ f = 2 ∨ a = 0 from Or.inl h2), if_pos (show a < r by omega)]

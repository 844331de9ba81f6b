/-! THE STORE: every cell of ours has a kind c and a number i; what it holds is told by three functions (numbers, longs, references by the number of the cell that is meant, whose kind the place says) -/
/-- (0, class, fields) an object; (1, type, length) an array -/
def kd (c : Nat) : Nat × Nat × Nat := match c with
  | 0 => (0, 3, 6)
  | 1 => (1, 3, 40)
  | 2 => (1, 4, 5)
  | 3 => (1, 0, 40)
  | 4 => (0, 0, 18)
  | 5 => (1, 3, 8)
  | 6 => (1, 0, 8)
  | 7 => (0, 2, 5)
  | 8 => (1, 0, 8)
  | 9 => (0, 1, 2)
  | 10 => (1, 3, 40)
  | 11 => (0, 4, 25)
  | 12 => (1, 1, 1)
  | 25 => (1, 0, 320)
  | 31 => (1, 0, 320)
  | 34 => (1, 1, 40)
  | 35 => (1, 2, 40)
  | 36 => (1, 2, 40)
  | 37 => (1, 0, 5)
  | 38 => (1, 0, 200)
  | 39 => (1, 0, 200)
  | 40 => (1, 0, 1600)
  | 41 => (1, 2, 200)
  | 44 => (1, 2, 40)
  | _ => (1, 0, 40)
/-- what a place holds: 0 a number, 1 a long, t + 2 a cell of kind t or null -/
def sty (c k : Nat) : Nat := match c with
  | 0 => (match k with | 0 => 3 | 3 => 4 | 4 => 5 | _ => 0)
  | 1 => 6
  | 2 => 11
  | 4 => (match k with | 2 => 7 | 4 => 1 | 8 => 1 | 12 => 8 | 17 => 9 | _ => 0)
  | 5 => 6
  | 7 => (match k with | 2 => 10 | 3 => 1 | _ => 0)
  | 9 => (match k with | 0 => 12 | _ => 0)
  | 10 => 6
  | 11 => (match k with | 0 => 0 | 1 => 0 | 2 => 0 | 23 => 0 | _ => k + 22)
  | 12 => 1
  | 34 => 1
  | _ => 0
abbrev Fi : Type := Nat → Nat → Nat → Int32
abbrev Fj : Type := Nat → Nat → Nat → Int64
abbrev Fr : Type := Nat → Nat → Nat → Option Nat
abbrev Fa : Type := Nat → Nat → Nat
def sv (ad : Fa) (I : Fi) (J : Fj) (R : Fr) (c i k : Nat) : Value := match sty c k with
  | 0 => .int (I c i k)
  | 1 => .long (J c i k)
  | t + 2 => (match R c i k with | none => .null | some j => .ref (ad t j))
def up3 {α : Type} (f : Nat → Nat → Nat → α) (c i k : Nat) (v : α) : Nat → Nat → Nat → α := fun a b d => if a = c ∧ b = i ∧ d = k then v else f a b d
theorem up3_s {α : Type} (f : Nat → Nat → Nat → α) (c i k : Nat) (v : α) : up3 f c i k v c i k = v := by simp [up3]
theorem up3_n {α : Type} (f : Nat → Nat → Nat → α) (c i k : Nat) (v : α) {a b d : Nat} (h : ¬ (a = c ∧ b = i ∧ d = k)) : up3 f c i k v a b d = f a b d := by simp only [up3, if_neg h]
abbrev aty (t : Nat) : FieldType := match t with
  | 0 => .int
  | 1 => .long
  | 2 => .boolean
  | 3 => .object RX0
  | _ => .object RX1
abbrev tysX (dA : Nat → ClassId) : List (ClassId × FieldType) := [(dA 0, .int), (dA 1, .long), (dA 2, .boolean), (dA 3, .object RX0), (dA 4, .object RX1)]
def cellAt (D : va_G) (dA : Nat → ClassId) (H : Heap) (a c : Nat) (V : Nat → Value) : Prop := match kd c with
  | (0, ci, n) => t_OB a (D.1 ci) n (D.2 ci) H V
  | (_, t, n) => H[a]? = some (arrV (dA t) n V)
theorem cellAt_kept {D : va_G} {dA : Nat → ClassId} {H H1 : Heap} {a c : Nat} {V : Nat → Value} (h : cellAt D dA H a c V) (hq : H1[a]? = H[a]?) : cellAt D dA H1 a c V := by
  unfold cellAt at h ⊢
  split at h
  · exact h.kept hq
  · exact hq.trans h
theorem cellAt_lt {D : va_G} {dA : Nat → ClassId} {H : Heap} {a c : Nat} {V : Nat → Value} (h : cellAt D dA H a c V) : a < H.size := by
  unfold cellAt at h
  split at h
  · obtain ⟨cell, h2, -⟩ := h
    exact (Array.getElem?_eq_some_iff.mp h2).1
  · exact (Array.getElem?_eq_some_iff.mp h).1
def HR (D : va_G) (dA : Nat → ClassId) (base : Nat) (ad : Fa) (N : Nat → Nat) (I : Fi) (J : Fj) (R : Fr) (H : Heap) : Prop :=
  (∀ c i, i < N c → cellAt D dA H (ad c i) c (sv ad I J R c i)) ∧ (∀ c i c' i', i < N c → i' < N c' → ad c i = ad c' i' → c = c' ∧ i = i') ∧ ∀ c i, i < N c → base ≤ ad c i
theorem HR.set {D : va_G} {dA : Nat → ClassId} {base : Nat} {ad : Fa} {N : Nat → Nat} {I I' : Fi} {J J' : Fj} {R R' : Fr} {H H1 : Heap} (h : HR D dA base ad N I J R H) {c i : Nat} (hi : i < N c)
    (h1 : cellAt D dA H1 (ad c i) c (sv ad I' J' R' c i)) (oq : ∀ q : Nat, q ≠ ad c i → H1[q]? = H[q]?) (hv : ∀ c' i', ¬ (c' = c ∧ i' = i) → sv ad I' J' R' c' i' = sv ad I J R c' i') : HR D dA base ad N I' J' R' H1 := by
  refine ⟨fun c' i' hi' => ?_, h.2.1, h.2.2⟩
  by_cases hc : c' = c ∧ i' = i
  · obtain ⟨rfl, rfl⟩ := hc
    exact h1
  · rw [hv c' i' hc]
    exact cellAt_kept (h.1 c' i' hi') (oq _ (fun e => hc (h.2.1 c' i' c i hi' hi e)))
theorem sv_I {ad : Fa} {I : Fi} {J : Fj} {R : Fr} {c k : Nat} (i : Nat) (h : sty c k = 0) : sv ad I J R c i k = .int (I c i k) := by simp only [sv, h]
theorem sv_J {ad : Fa} {I : Fi} {J : Fj} {R : Fr} {c k : Nat} (i : Nat) (h : sty c k = 1) : sv ad I J R c i k = .long (J c i k) := by simp only [sv, h]
theorem sv_Rs {ad : Fa} {I : Fi} {J : Fj} {R : Fr} {c k t j : Nat} (i : Nat) (h : sty c k = t + 2) (hr : R c i k = some j) : sv ad I J R c i k = .ref (ad t j) := by simp only [sv, h, hr]
theorem sv_Rn {ad : Fa} {I : Fi} {J : Fj} {R : Fr} {c k t : Nat} (i : Nat) (h : sty c k = t + 2) (hr : R c i k = none) : sv ad I J R c i k = .null := by simp only [sv, h, hr]
theorem sv_upI {ad : Fa} {I : Fi} {J : Fj} {R : Fr} {c k : Nat} (i : Nat) (h : sty c k = 0) (v : Int32) : sv ad (up3 I c i k v) J R c i = updV (sv ad I J R c i) k (.int v) := by
  funext q
  by_cases hq : q = k
  · subst hq; simp only [sv, h, updV, up3_s, if_true]
  · simp only [sv, updV, if_neg hq, up3_n I c i k v (fun z => hq z.2.2)]
theorem sv_upI' {ad : Fa} {I : Fi} {J : Fj} {R : Fr} {c k i : Nat} (v : Int32) (c' i' : Nat) (h : ¬ (c' = c ∧ i' = i)) : sv ad (up3 I c i k v) J R c' i' = sv ad I J R c' i' := by
  funext q
  simp only [sv, up3_n I c i k v (fun z => h ⟨z.1, z.2.1⟩)]
theorem sv_upJ {ad : Fa} {I : Fi} {J : Fj} {R : Fr} {c k : Nat} (i : Nat) (h : sty c k = 1) (v : Int64) : sv ad I (up3 J c i k v) R c i = updV (sv ad I J R c i) k (.long v) := by
  funext q
  by_cases hq : q = k
  · subst hq; simp only [sv, h, updV, up3_s, if_true]
  · simp only [sv, updV, if_neg hq, up3_n J c i k v (fun z => hq z.2.2)]
theorem sv_upJ' {ad : Fa} {I : Fi} {J : Fj} {R : Fr} {c k i : Nat} (v : Int64) (c' i' : Nat) (h : ¬ (c' = c ∧ i' = i)) : sv ad I (up3 J c i k v) R c' i' = sv ad I J R c' i' := by
  funext q
  simp only [sv, up3_n J c i k v (fun z => h ⟨z.1, z.2.1⟩)]
theorem sv_upR {ad : Fa} {I : Fi} {J : Fj} {R : Fr} {c k t : Nat} (i : Nat) (h : sty c k = t + 2) (j : Nat) : sv ad I J (up3 R c i k (some j)) c i = updV (sv ad I J R c i) k (.ref (ad t j)) := by
  funext q
  by_cases hq : q = k
  · subst hq; simp only [sv, h, updV, up3_s, if_true]
  · simp only [sv, updV, if_neg hq, up3_n R c i k (some j) (fun z => hq z.2.2)]
theorem sv_upR' {ad : Fa} {I : Fi} {J : Fj} {R : Fr} {c k i : Nat} (v : Option Nat) (c' i' : Nat) (h : ¬ (c' = c ∧ i' = i)) : sv ad I J (up3 R c i k v) c' i' = sv ad I J R c' i' := by
  funext q
  simp only [sv, up3_n R c i k v (fun z => h ⟨z.1, z.2.1⟩)]
theorem HR.obj {D : va_G} {dA : Nat → ClassId} {base : Nat} {ad : Fa} {N : Nat → Nat} {I : Fi} {J : Fj} {R : Fr} {H : Heap} (h : HR D dA base ad N I J R H) {c i ci n : Nat} (hi : i < N c) (hk : kd c = (0, ci, n)) : t_OB (ad c i) (D.1 ci) n (D.2 ci) H (sv ad I J R c i) := by
  have h1 := h.1 c i hi
  unfold cellAt at h1
  rw [hk] at h1
  exact h1
theorem HR.arr {D : va_G} {dA : Nat → ClassId} {base : Nat} {ad : Fa} {N : Nat → Nat} {I : Fi} {J : Fj} {R : Fr} {H : Heap} (h : HR D dA base ad N I J R H) {c i t n : Nat} (hi : i < N c) (hk : kd c = (1, t, n)) : H[ad c i]? = some (arrV (dA t) n (sv ad I J R c i)) := by
  have h1 := h.1 c i hi
  unfold cellAt at h1
  rw [hk] at h1
  exact h1
/-! LOCALS by their places -/
def LVx (nL : Nat) (L : List (Option Value)) (ls : Array Slot) : Prop := ls.size = nL ∧ lv_wf ls ∧ ∀ (j : Nat) (v : Value), L[j]? = some (some v) → ls[j]? = some (.val v)
def prs : Nat → List (Option Value) → List (Nat × Value)
  | _, [] => []
  | i, none :: t => prs (i + 1) t
  | i, some v :: t => (i, v) :: prs (i + 1) t
theorem prs_mem : ∀ (L : List (Option Value)) (a : Nat) (q : Nat × Value), q ∈ prs a L → ∃ k, q.1 = a + k ∧ L[k]? = some (some q.2)
  | [], _, _, h => by simp [prs] at h
  | none :: t, a, q, h => by
    obtain ⟨k, h1, h2⟩ := prs_mem t (a + 1) q h
    exact ⟨k + 1, by omega, by simpa using h2⟩
  | some v :: t, a, q, h => by
    rcases List.mem_cons.mp h with rfl | h
    · exact ⟨0, rfl, rfl⟩
    · obtain ⟨k, h1, h2⟩ := prs_mem t (a + 1) q h
      exact ⟨k + 1, by omega, by simpa using h2⟩
theorem prs_in : ∀ (L : List (Option Value)) (a k : Nat) (v : Value), L[k]? = some (some v) → (a + k, v) ∈ prs a L
  | [], _, _, _, h => by simp at h
  | none :: t, a, 0, v, h => by simp at h
  | none :: t, a, k + 1, v, h => by
    have h1 := prs_in t (a + 1) k v (by simpa using h)
    rw [show a + (k + 1) = a + 1 + k by omega]
    exact h1
  | some w :: t, a, 0, v, h => by
    have e : w = v := by simpa using h
    subst e
    exact List.mem_cons_self
  | some w :: t, a, k + 1, v, h => by
    have h1 := prs_in t (a + 1) k v (by simpa using h)
    rw [show a + (k + 1) = a + 1 + k by omega]
    exact List.mem_cons_of_mem _ h1
theorem LVx.has {nL : Nat} {L : List (Option Value)} {ls : Array Slot} (h : LVx nL L ls) : lv_has ls nL (prs 0 L) := ⟨h.1, h.2.1, fun q hq => by
  obtain ⟨k, h1, h2⟩ := prs_mem L 0 q hq
  rw [h1, Nat.zero_add]
  exact h.2.2 k _ h2⟩
/-- no long begins just ahead of the place i -/
def okc (L : List (Option Value)) (i : Nat) : Bool := match i with
  | 0 => true
  | j + 1 => match L[j]? with
    | some (some v) => v.category == 1
    | _ => true
theorem LVx.st1 {nL i : Nat} {L : List (Option Value)} {ls ls' : Array Slot} {v : Value} (hc : okc L i = true) (h : lv_has ls' nL ((i, v) :: (prs 0 L).filter (fun q => !(q.1 == i) && !(q.1 + 1 == i && q.2.category == 2)))) : LVx nL (L.set i (some v)) ls' := by
  refine ⟨h.1, h.2.1, fun j w hj => ?_⟩
  by_cases hij : j = i
  · subst hij
    have hl : j < L.length := by
      have := (List.getElem?_eq_some_iff.mp hj).1
      simpa using this
    rw [List.getElem?_set_self hl] at hj
    cases hj
    exact h.2.2 (j, v) List.mem_cons_self
  · rw [List.getElem?_set_ne (Ne.symm hij)] at hj
    refine h.2.2 (j, w) (List.mem_cons_of_mem _ (List.mem_filter.mpr ⟨by simpa using prs_in L 0 j w hj, ?_⟩))
    have h1 : (j == i) = false := by simpa using hij
    simp only [h1, Bool.not_false, Bool.true_and]
    by_cases h2 : j + 1 = i
    · subst h2
      simp only [okc, hj] at hc
      have : w.category = 1 := by simpa using hc
      simp [this]
    · simp [h2]
theorem LVx.st2 {nL i : Nat} {L : List (Option Value)} {ls ls' : Array Slot} {v : Value} (hc : okc L i = true) (h : lv_has ls' nL ((i, v) :: (prs 0 L).filter (fun q => !(q.1 == i) && (!(q.1 == i + 1) && !(q.1 + 1 == i && q.2.category == 2))))) : LVx nL ((L.set i (some v)).set (i + 1) none) ls' := by
  refine ⟨h.1, h.2.1, fun j w hj => ?_⟩
  by_cases hj1 : j = i + 1
  · subst hj1
    rw [List.getElem?_set] at hj
    simp only [if_true] at hj
    split at hj <;> simp at hj
  · rw [List.getElem?_set_ne (Ne.symm hj1)] at hj
    by_cases hij : j = i
    · subst hij
      have hl : j < L.length := by
        have := (List.getElem?_eq_some_iff.mp hj).1
        simpa using this
      rw [List.getElem?_set_self hl] at hj
      cases hj
      exact h.2.2 (j, v) List.mem_cons_self
    · rw [List.getElem?_set_ne (Ne.symm hij)] at hj
      refine h.2.2 (j, w) (List.mem_cons_of_mem _ (List.mem_filter.mpr ⟨by simpa using prs_in L 0 j w hj, ?_⟩))
      have h1 : (j == i) = false := by simpa using hij
      have h3 : (j == i + 1) = false := by simpa using hj1
      simp only [h1, h3, Bool.not_false, Bool.true_and]
      by_cases h2 : j + 1 = i
      · subst h2
        simp only [okc, hj] at hc
        have : w.category = 1 := by simpa using hc
        simp [this]
      · simp [h2]
def argL (vs : List Value) : List (Option Value) := vs.flatMap fun v => if v.category = 2 then [some v, none] else [some v]
theorem argL_in : ∀ (vs : List Value) (a j : Nat) (v : Value) (t : Nat), (argL vs ++ List.replicate t none)[j]? = some (some v) → (a + j, v) ∈ lv_args a vs
  | [], a, j, v, t, h => by
    simp only [argL, List.flatMap_nil, List.nil_append] at h
    have := List.eq_of_mem_replicate (List.mem_of_getElem? h)
    cases this
  | w :: vs, a, j, v, t, h => by
    by_cases hc : w.category = 2
    · simp only [lv_args, hc, if_true]
      have e : argL (w :: vs) = some w :: none :: argL vs := by simp [argL, hc]
      rw [e] at h
      match j, h with
      | 0, h =>
        have e2 : w = v := by simpa using h
        subst e2
        exact List.mem_cons_self
      | 1, h => simp at h
      | j + 2, h =>
        have h1 := argL_in vs (a + 2) j v t (by simpa using h)
        rw [show a + (j + 2) = a + 2 + j by omega]
        exact List.mem_cons_of_mem _ h1
    · simp only [lv_args, hc, if_false]
      have e : argL (w :: vs) = some w :: argL vs := by simp [argL, hc]
      rw [e] at h
      match j, h with
      | 0, h =>
        have e2 : w = v := by simpa using h
        subst e2
        exact List.mem_cons_self
      | j + 1, h =>
        have h1 := argL_in vs (a + 1) j v t (by simpa using h)
        rw [show a + (j + 1) = a + 1 + j by omega]
        exact List.mem_cons_of_mem _ h1
theorem LVx.entry (vs : List Value) {n : Nat} (t : Nat) (h : (lg_sl vs).length ≤ n) : LVx n (argL vs ++ List.replicate t none) ((lg_sl vs ++ List.replicate (n - (lg_sl vs).length) Slot.unset).toArray) := by
  obtain ⟨h1, h2, h3⟩ := lv_entry vs h
  exact ⟨h1, h2, fun j v hj => h3 (j, v) (by simpa using argL_in vs 0 j v t hj)⟩

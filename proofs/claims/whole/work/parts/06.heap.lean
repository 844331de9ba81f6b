/-! ROWS THAT TOUCH THE STORE; contracts; calls; answers -/
theorem uwsX0 : ∀ w ∈ wsX00, w ∈ lw_gd := fun w h => gd_in ((by decide +kernel : ∀ w ∈ wsX00, w ∈ lw_tbl) w h) ((by decide +kernel : ∀ w ∈ wsX00, goodWord w = true) w h)
theorem uwsX1 : ∀ w ∈ wsX10, w ∈ lw_gd := fun w h => gd_in ((by decide +kernel : ∀ w ∈ wsX10, w ∈ lw_tbl) w h) ((by decide +kernel : ∀ w ∈ wsX10, goodWord w = true) w h)
theorem uwsX2 : ∀ w ∈ wsX20, w ∈ lw_gd := fun w h => gd_in ((by decide +kernel : ∀ w ∈ wsX20, w ∈ lw_tbl) w h) ((by decide +kernel : ∀ w ∈ wsX20, goodWord w = true) w h)
theorem uwsX3 : ∀ w ∈ wsX30, w ∈ lw_gd := fun w h => gd_in ((by decide +kernel : ∀ w ∈ wsX30, w ∈ lw_tbl) w h) ((by decide +kernel : ∀ w ∈ wsX30, goodWord w = true) w h)
theorem uwsX4 : ∀ w ∈ wsX40, w ∈ lw_gd := fun w h => gd_in ((by decide +kernel : ∀ w ∈ wsX40, w ∈ lw_tbl) w h) ((by decide +kernel : ∀ w ∈ wsX40, goodWord w = true) w h)
theorem cok {ci : Nat} {q : vw_C} (h : vwCl[ci]? = some q) : ∃ ty : Nat → FieldType, (∀ k, k < q.2.2 → parseFieldDescriptor (q.2.1 k).2.2.1 = some (ty k)) ∧ (∀ a, a < q.2.2 → ∀ b, b < q.2.2 → a ≠ b → (q.2.1 a).2.1 ≠ (q.2.1 b).2.1) ∧ ∀ w ∈ u_ws q.1 q.2.1 q.2.2, w ∈ lw_gd := by
  match ci, h with
  | 0, h => cases h; exact ⟨tyX0, tyX0_ok, nmX0, uwsX0⟩
  | 1, h => cases h; exact ⟨tyX1, tyX1_ok, nmX1, uwsX1⟩
  | 2, h => cases h; exact ⟨tyX2, tyX2_ok, nmX2, uwsX2⟩
  | 3, h => cases h; exact ⟨tyX3, tyX3_ok, nmX3, uwsX3⟩
  | 4, h => cases h; exact ⟨tyX4, tyX4_ok, nmX4, uwsX4⟩
  | k + 5, h => simp [vwCl] at h
/-- entry idx of the class own names the place k of the objects of kind c -/
def FOK (own : String) (idx c k : Nat) : Prop := ∃ (ci n : Nat) (C : String) (T : u_T), kd c = (0, ci, n) ∧ vwCl[ci]? = some (C, T, n) ∧ k < n ∧ Cond.fieldLink own idx (T k).1 (T k).2.1 (T k).2.2.1 ∈ lw_gd
/-- .. which isn't final, of type ty -/
def FOW (own : String) (idx c k : Nat) (ty : FieldType) : Prop := ∃ (ci n : Nat) (C : String) (T : u_T), kd c = (0, ci, n) ∧ vwCl[ci]? = some (C, T, n) ∧ k < n ∧ Cond.fieldLink own idx (T k).1 (T k).2.1 (T k).2.2.1 ∈ lw_gd ∧ (T k).2.2.2 = false ∧ parseFieldDescriptor (T k).2.2.1 = some ty
section GXH
variable {p : Program} {l : Launch} {e : Env} {Rm : Room} {s : State} {m : MethodId} {args : Array Value} {below : List Frame} {meth : Method} {c : Code} {Q : State → Prop} {cc : ByteArray} {own : String} {ret : Option FieldType} {D : va_G} {dA : Nat → ClassId} {base nL : Nat} {ad : Fa} {N : Nat → Nat} {I I' : Fi} {J J' : Fj} {R R' : Fr} {nc ns pc : Nat} {L : List (Option Value)} {st : List Value}
theorem x_getV (C : CX p s m args meth c cc nL own ret D dA base) {idx kc k i : Nat} {v : Value} (f : FOK own idx kc k) (hi : i < N kc) (hv : sv ad I J R kc i k = v) (d : decode cc pc = .ok (.getfield idx, 3)) (kk : GX p l e Rm s m args below meth c Q D dA base nL ad N I J R nc ns (pc + 3) L (v :: st)) : GX p l e Rm s m args below meth c Q D dA base nL ad N I J R nc ns pc L (.ref (ad kc i) :: st) := fun H locs ls hH hS hl => by
  obtain ⟨ci, n, C', T, h1, h2, h3, h4⟩ := f
  obtain ⟨ty, -, -, hu⟩ := cok h2
  have hob := hH.obj hi h1
  have hP : va_P D vwCl [(ad kc i, .inr (ci, (List.range n).map (sv ad I J R kc i)))] H := fun k0 q hk => by
    have hz : k0 < 1 := (List.getElem?_eq_some_iff.mp hk).1
    rw [show k0 = 0 by omega] at hk
    cases hk
    exact ⟨(C', T, n), h2, hob.to (fun j hj => by simp [vp_V, hj])⟩
  exact va_get (D := D) (ci := ci) (v := v) C.1 C.2.1 C.2.2.2.2.1 hu C.2.2.2.1 C.2.2.2.2.2.1 hP 0 rfl h2 k h3 (C.2.2.2.2.1 _ h4) (fun _ h9 => h9) (by simp [h3, hv]) d (kk H locs ls hH hS hl)
theorem x_getI (C : CX p s m args meth c cc nL own ret D dA base) {idx kc k i : Nat} (f : FOK own idx kc k) (hs : sty kc k = 0) (hi : i < N kc) (d : decode cc pc = .ok (.getfield idx, 3)) (kk : GX p l e Rm s m args below meth c Q D dA base nL ad N I J R nc ns (pc + 3) L (.int (I kc i k) :: st)) : GX p l e Rm s m args below meth c Q D dA base nL ad N I J R nc ns pc L (.ref (ad kc i) :: st) := x_getV C f hi (sv_I i hs) d kk
theorem x_getJ (C : CX p s m args meth c cc nL own ret D dA base) {idx kc k i : Nat} (f : FOK own idx kc k) (hs : sty kc k = 1) (hi : i < N kc) (d : decode cc pc = .ok (.getfield idx, 3)) (kk : GX p l e Rm s m args below meth c Q D dA base nL ad N I J R nc ns (pc + 3) L (.long (J kc i k) :: st)) : GX p l e Rm s m args below meth c Q D dA base nL ad N I J R nc ns pc L (.ref (ad kc i) :: st) := x_getV C f hi (sv_J i hs) d kk
theorem x_getR (C : CX p s m args meth c cc nL own ret D dA base) {idx kc k i t j : Nat} (f : FOK own idx kc k) (hs : sty kc k = t + 2) (hr : R kc i k = some j) (hi : i < N kc) (d : decode cc pc = .ok (.getfield idx, 3)) (kk : GX p l e Rm s m args below meth c Q D dA base nL ad N I J R nc ns (pc + 3) L (.ref (ad t j) :: st)) : GX p l e Rm s m args below meth c Q D dA base nL ad N I J R nc ns pc L (.ref (ad kc i) :: st) := x_getV C f hi (sv_Rs i hs hr) d kk
theorem x_putV (C : CX p s m args meth c cc nL own ret D dA base) {idx kc k i : Nat} {v : Value} {ty : FieldType} (f : FOW own idx kc k ty) (hi : i < N kc) (hn : narrow ty v = v) (hfit : fits ty v = true) (hv : sv ad I' J' R' kc i = updV (sv ad I J R kc i) k v) (hv' : ∀ c' i', ¬ (c' = kc ∧ i' = i) → sv ad I' J' R' c' i' = sv ad I J R c' i') (d : decode cc pc = .ok (.putfield idx, 3)) (kk : GX p l e Rm s m args below meth c Q D dA base nL ad N I' J' R' nc ns (pc + 3) L st) : GX p l e Rm s m args below meth c Q D dA base nL ad N I J R nc ns pc L (v :: .ref (ad kc i) :: st) := fun H locs ls hH hS hl => by
  obtain ⟨ci, n, C', T, h1, h2, h3, h4, hfin, hd⟩ := f
  obtain ⟨ty0, hty, hnm, hu⟩ := cok h2
  have hts := C.2.2.2.2.1
  have hK := C.2.2.2.2.2.1
  have hap := va_apart (own := own) hts hu ty0 hty hnm hK h2
  obtain ⟨cell, q1, q2, q3, q4⟩ := hH.obj hi h1
  obtain ⟨hSl, hfc, kC, hkC, hkind⟩ := hK.1 ci _ h2
  obtain ⟨cf, kf, fi, f, hfi, hsl⟩ := hSl k h3
  have hlay := hts _ (hu _ (u_in_lay h3))
  unfold u_lay at hlay
  rw [if_neg (by rw [hfin]; decide)] at hlay
  have hst := (u_facts hfc hkC (u_lays hts hu h3) hfi).1
  have h6 := u_store hfc hkC hkind hlay hfi hd hn hfit
  refine W.putK C.1 C.2.1 (f := f) ⟨C.2.2.2.1, hts _ h4, ⟨_, _, _, hfi⟩, hst⟩ (by rw [q2]; exact h6) q1 q3 (by rw [hsl]; exact k2_hasslot (q4 k h3)) rfl rfl d fun H' e1 e2 e3 => ?_
  rw [hsl] at e1 ⊢
  refine kk H' _ ls (hH.set hi ?_ e3 hv') (hS.put e2 e3 (hH.2.2 kc i hi)) hl
  unfold cellAt
  rw [h1, hv]
  exact ⟨_, e1, q2, q3, t_set q4 hap h3 v⟩
theorem x_putI (C : CX p s m args meth c cc nL own ret D dA base) {idx kc k i : Nat} {v : Int32} (f : FOW own idx kc k .int) (hs : sty kc k = 0) (hi : i < N kc) (d : decode cc pc = .ok (.putfield idx, 3)) (kk : GX p l e Rm s m args below meth c Q D dA base nL ad N (up3 I kc i k v) J R nc ns (pc + 3) L st) : GX p l e Rm s m args below meth c Q D dA base nL ad N I J R nc ns pc L (.int v :: .ref (ad kc i) :: st) := x_putV C f hi rfl rfl (sv_upI i hs v) (sv_upI' v) d kk
theorem x_putZ (C : CX p s m args meth c cc nL own ret D dA base) {idx kc k i : Nat} {v : Int32} (f : FOW own idx kc k .boolean) (hs : sty kc k = 0) (hi : i < N kc) (hz : v = 0 ∨ v = 1) (d : decode cc pc = .ok (.putfield idx, 3)) (kk : GX p l e Rm s m args below meth c Q D dA base nL ad N (up3 I kc i k v) J R nc ns (pc + 3) L st) : GX p l e Rm s m args below meth c Q D dA base nL ad N I J R nc ns pc L (.int v :: .ref (ad kc i) :: st) := x_putV C f hi (by rcases hz with rfl | rfl <;> decide +kernel) (by rcases hz with rfl | rfl <;> decide +kernel) (sv_upI i hs v) (sv_upI' v) d kk
theorem x_putJ (C : CX p s m args meth c cc nL own ret D dA base) {idx kc k i : Nat} {v : Int64} (f : FOW own idx kc k .long) (hs : sty kc k = 1) (hi : i < N kc) (d : decode cc pc = .ok (.putfield idx, 3)) (kk : GX p l e Rm s m args below meth c Q D dA base nL ad N I (up3 J kc i k v) R nc ns (pc + 3) L st) : GX p l e Rm s m args below meth c Q D dA base nL ad N I J R nc ns pc L (.long v :: .ref (ad kc i) :: st) := x_putV C f hi rfl rfl (sv_upJ i hs v) (sv_upJ' v) d kk
theorem x_iald (C : CX p s m args meth c cc nL own ret D dA base) {kc i n : Nat} {j : Int32} (hk : kd kc = (1, 0, n)) (hs : sty kc j.toNatClampNeg = 0) (hi : i < N kc) (hj : vp_in j n) (d : decode cc pc = .ok (.iaload, 1)) (kk : GX p l e Rm s m args below meth c Q D dA base nL ad N I J R nc ns (pc + 1) L (.int (I kc i j.toNatClampNeg) :: st)) : GX p l e Rm s m args below meth c Q D dA base nL ad N I J R nc ns pc L (.int j :: .ref (ad kc i) :: st) := fun H locs ls hH hS hl => by
  have hlt : j.toNatClampNeg < n := Nat.not_le.mp fun q => hj (Or.inr q)
  exact W.iald C.1 C.2.1 (hH.arr hi hk) ((C.2.2.2.2.2.1.2 0 _ rfl).1 n _) (fun q => by cases q) (by rw [arrV_size]; exact hj) (by rw [arrV_read _ _ hlt, sv_I i hs]) rfl rfl d (kk H locs ls hH hS hl)
theorem x_zald (C : CX p s m args meth c cc nL own ret D dA base) {kc i n : Nat} {j : Int32} (hk : kd kc = (1, 2, n)) (hs : sty kc j.toNatClampNeg = 0) (hi : i < N kc) (hj : vp_in j n) (d : decode cc pc = .ok (.baload, 1)) (kk : GX p l e Rm s m args below meth c Q D dA base nL ad N I J R nc ns (pc + 1) L (.int (I kc i j.toNatClampNeg) :: st)) : GX p l e Rm s m args below meth c Q D dA base nL ad N I J R nc ns pc L (.int j :: .ref (ad kc i) :: st) := fun H locs ls hH hS hl => by
  have hlt : j.toNatClampNeg < n := Nat.not_le.mp fun q => hj (Or.inr q)
  exact W.zald C.1 C.2.1 (hH.arr hi hk) ((C.2.2.2.2.2.1.2 2 _ rfl).1 n _) (fun q => by cases q) (by rw [arrV_size]; exact hj) (by rw [arrV_read _ _ hlt, sv_I i hs]) rfl rfl d (kk H locs ls hH hS hl)
theorem x_lald (C : CX p s m args meth c cc nL own ret D dA base) {kc i n : Nat} {j : Int32} (hk : kd kc = (1, 1, n)) (hs : sty kc j.toNatClampNeg = 1) (hi : i < N kc) (hj : vp_in j n) (d : decode cc pc = .ok (.laload, 1)) (kk : GX p l e Rm s m args below meth c Q D dA base nL ad N I J R nc ns (pc + 1) L (.long (J kc i j.toNatClampNeg) :: st)) : GX p l e Rm s m args below meth c Q D dA base nL ad N I J R nc ns pc L (.int j :: .ref (ad kc i) :: st) := fun H locs ls hH hS hl => by
  have hlt : j.toNatClampNeg < n := Nat.not_le.mp fun q => hj (Or.inr q)
  exact W.lald C.1 C.2.1 (hH.arr hi hk) ((C.2.2.2.2.2.1.2 1 _ rfl).1 n _) (fun q => by cases q) (by rw [arrV_size]; exact hj) (by rw [arrV_read _ _ hlt, sv_J i hs]) rfl rfl d (kk H locs ls hH hS hl)
/-- a reference out of an array: null, or a cell of the array's own kind -/
theorem x_aald (C : CX p s m args meth c cc nL own ret D dA base) {kc i n ta t : Nat} {j : Int32} {Cn : String} (hk : kd kc = (1, ta, n)) (hta : (tysX dA)[ta]? = some (dA ta, .object Cn)) (hs : sty kc j.toNatClampNeg = t + 2) (hi : i < N kc) (hj : vp_in j n) (d : decode cc pc = .ok (.aaload, 1)) (kn : R kc i j.toNatClampNeg = none → GX p l e Rm s m args below meth c Q D dA base nL ad N I J R nc ns (pc + 1) L (.null :: st)) (kk : ∀ y, R kc i j.toNatClampNeg = some y → GX p l e Rm s m args below meth c Q D dA base nL ad N I J R nc ns (pc + 1) L (.ref (ad t y) :: st)) : GX p l e Rm s m args below meth c Q D dA base nL ad N I J R nc ns pc L (.int j :: .ref (ad kc i) :: st) := fun H locs ls hH hS hl => by
  have hlt : j.toNatClampNeg < n := Nat.not_le.mp fun q => hj (Or.inr q)
  cases hr : R kc i j.toNatClampNeg with
  | none => exact W.aald (v := .null) (ty := .object Cn) C.1 C.2.1 (hH.arr hi hk) ((C.2.2.2.2.2.1.2 ta _ hta).1 n _) rfl (fun q => by cases q) (by rw [arrV_size]; exact hj) (by rw [arrV_read _ _ hlt, sv_Rn i hs hr]) rfl rfl d (kn hr H locs ls hH hS hl)
  | some y => exact W.aald (v := .ref (ad t y)) (ty := .object Cn) C.1 C.2.1 (hH.arr hi hk) ((C.2.2.2.2.2.1.2 ta _ hta).1 n _) rfl (fun q => by cases q) (by rw [arrV_size]; exact hj) (by rw [arrV_read _ _ hlt, sv_Rs i hs hr]) rfl rfl d (kk y hr H locs ls hH hS hl)
theorem HR.setA {H H1 : Heap} (hH : HR D dA base ad N I J R H) {kc i n t a : Nat} {v : Value} (hi : i < N kc) (hk : kd kc = (1, t, n)) (hv : sv ad I' J' R' kc i = updV (sv ad I J R kc i) a v) (hv' : ∀ c' i', ¬ (c' = kc ∧ i' = i) → sv ad I' J' R' c' i' = sv ad I J R c' i') (e : H1[ad kc i]? = some ((arrV (dA t) n (sv ad I J R kc i)).setSlot a v)) (oq : ∀ q : Nat, q ≠ ad kc i → H1[q]? = H[q]?) : HR D dA base ad N I' J' R' H1 := by
  refine hH.set hi ?_ oq hv'
  unfold cellAt
  rw [hk, hv]
  exact e.trans (by rw [arrV_store])
theorem x_iast (C : CX p s m args meth c cc nL own ret D dA base) {kc i n : Nat} {j x : Int32} (hk : kd kc = (1, 0, n)) (hs : sty kc j.toNatClampNeg = 0) (hi : i < N kc) (hj : vp_in j n) (d : decode cc pc = .ok (.iastore, 1)) (kk : GX p l e Rm s m args below meth c Q D dA base nL ad N (up3 I kc i j.toNatClampNeg x) J R nc ns (pc + 1) L st) : GX p l e Rm s m args below meth c Q D dA base nL ad N I J R nc ns pc L (.int x :: .int j :: .ref (ad kc i) :: st) := fun H locs ls hH hS hl =>
  W.iast C.1 C.2.1 (hH.arr hi hk) ((C.2.2.2.2.2.1.2 0 _ rfl).1 n _) (fun q => by cases q) (by rw [arrV_size]; exact hj) rfl rfl d fun H1 e z oq => kk H1 _ ls (hH.setA hi hk (sv_upI i hs x) (sv_upI' x) e oq) (hS.put z oq (hH.2.2 kc i hi)) hl
theorem x_zast (C : CX p s m args meth c cc nL own ret D dA base) {kc i n : Nat} {j x : Int32} (hk : kd kc = (1, 2, n)) (hs : sty kc j.toNatClampNeg = 0) (hi : i < N kc) (hj : vp_in j n) (hz : x = 0 ∨ x = 1) (d : decode cc pc = .ok (.bastore, 1)) (kk : GX p l e Rm s m args below meth c Q D dA base nL ad N (up3 I kc i j.toNatClampNeg x) J R nc ns (pc + 1) L st) : GX p l e Rm s m args below meth c Q D dA base nL ad N I J R nc ns pc L (.int x :: .int j :: .ref (ad kc i) :: st) := fun H locs ls hH hS hl =>
  W.zast C.1 C.2.1 (hH.arr hi hk) ((C.2.2.2.2.2.1.2 2 _ rfl).1 n _) (fun q => by cases q) (by rw [arrV_size]; exact hj) rfl rfl d fun H1 e z oq => kk H1 _ ls (hH.setA hi hk (sv_upI i hs x) (sv_upI' x) (by rw [show narrow .boolean (.int x) = .int x by rcases hz with rfl | rfl <;> decide +kernel] at e; exact e) oq) (hS.put z oq (hH.2.2 kc i hi)) hl
theorem x_last (C : CX p s m args meth c cc nL own ret D dA base) {kc i n : Nat} {j : Int32} {x : Int64} (hk : kd kc = (1, 1, n)) (hs : sty kc j.toNatClampNeg = 1) (hi : i < N kc) (hj : vp_in j n) (d : decode cc pc = .ok (.lastore, 1)) (kk : GX p l e Rm s m args below meth c Q D dA base nL ad N I (up3 J kc i j.toNatClampNeg x) R nc ns (pc + 1) L st) : GX p l e Rm s m args below meth c Q D dA base nL ad N I J R nc ns pc L (.long x :: .int j :: .ref (ad kc i) :: st) := fun H locs ls hH hS hl =>
  W.last C.1 C.2.1 (hH.arr hi hk) ((C.2.2.2.2.2.1.2 1 _ rfl).1 n _) (fun q => by cases q) (by rw [arrV_size]; exact hj) rfl rfl d fun H1 e z oq => kk H1 _ ls (hH.setA hi hk (sv_upJ i hs x) (sv_upJ' x) e oq) (hS.put z oq (hH.2.2 kc i hi)) hl
theorem x_aast (C : CX p s m args meth c cc nL own ret D dA base) {kc i n ta t y ci nf : Nat} {j : Int32} {r : vw_C} (hk : kd kc = (1, ta, n)) (hta : (tysX dA)[ta]? = some (dA ta, .object r.1)) (hs : sty kc j.toNatClampNeg = t + 2) (hkt : kd t = (0, ci, nf)) (hci : vwCl[ci]? = some r) (hi : i < N kc) (hy : y < N t) (hj : vp_in j n) (d : decode cc pc = .ok (.aastore, 1)) (kk : GX p l e Rm s m args below meth c Q D dA base nL ad N I J (up3 R kc i j.toNatClampNeg (some y)) nc ns (pc + 1) L st) : GX p l e Rm s m args below meth c Q D dA base nL ad N I J R nc ns pc L (.ref (ad t y) :: .int j :: .ref (ad kc i) :: st) := fun H locs ls hH hS hl => by
  have hlt : j.toNatClampNeg < n := Nat.not_le.mp fun q => hj (Or.inr q)
  have h0 : ¬ j < 0 := fun q => hj (Or.inl q)
  have hK := C.2.2.2.2.2.1
  obtain ⟨cellV, g1, g2, g3, -⟩ := hH.obj hy hkt
  have hcls := (hK.1 ci r hci).2
  obtain ⟨kA, comp, k1, k2, k3, -⟩ := (hK.2 ta _ hta).2
  have hcomp : comp = D.1 ci := Option.some.inj (k3.symm.trans hcls.1)
  subst hcomp
  obtain ⟨kC, hkC, -⟩ := hcls.2
  refine W.aast C.1 C.2.1 (hH.arr hi hk) (fun q h => by cases h) (fun h => by cases h) k1 k2 rfl hkC ⟨h0, by rw [arrV_size]; exact hlt⟩ g1 (fun q h => by rw [g3] at h; cases h) (by rw [g2]; exact hkC) (by rw [g2]; exact va_assign hcls) rfl rfl d fun H1 e z oq => ?_
  exact kk H1 _ ls (hH.setA hi hk (sv_upR i hs y) (sv_upR' (some y)) e oq) (hS.put z oq (hH.2.2 kc i hi)) hl
theorem x_alen (C : CX p s m args meth c cc nL own ret D dA base) {kc i n ta : Nat} {ty : FieldType} (v : Int32) (hk : kd kc = (1, ta, n)) (hta : (tysX dA)[ta]? = some (dA ta, ty)) (hn : Int32.ofNat n = v) (hi : i < N kc) (d : decode cc pc = .ok (.arraylength, 1)) (kk : GX p l e Rm s m args below meth c Q D dA base nL ad N I J R nc ns (pc + 1) L (.int v :: st)) : GX p l e Rm s m args below meth c Q D dA base nL ad N I J R nc ns pc L (.ref (ad kc i) :: st) := fun H locs ls hH hS hl =>
  W.alen (n := v) C.1 C.2.1 (hH.arr hi hk) ((C.2.2.2.2.2.1.2 ta _ hta).1 n _) (by rw [arrV_size]; exact hn) rfl rfl d (kk H locs ls hH hS hl)
end GXH
/-! CONTRACTS -/
abbrev Po : Type := Option Value → Fa → (Nat → Nat) → Fi → Fj → Fr → Prop
def CQ (D : va_G) (dA : Nat → ClassId) (base : Nat) (post : Po) : Array Value → State → Outcome → State → Prop := fun _ st o t => (∃ (r : Option Value) (ad : Fa) (N : Nat → Nat) (I : Fi) (J : Fj) (R : Fr), o = .returned r ∧ post r ad N I J R ∧ HR D dA base ad N I J R t.heap) ∧ va_F (fun q => base ≤ q) st t
def CP (D : va_G) (dA : Nat → ClassId) (base : Nat) (as : List Value) (ad : Fa) (N : Nat → Nat) (I : Fi) (J : Fj) (R : Fr) : Array Value → State → Prop := fun v U => v = as.toArray ∧ base ≤ U.heap.size ∧ HR D dA base ad N I J R U.heap ∧ va_K D vwCl (tysX dA) U
abbrev rmX (d mc ms : Nat) : Room := { frames := d, cells := mc, slots := ms, locals := 30 * d }
def CT (l : Launch) (D : va_G) (dA : Nat → ClassId) (base : Nat) (y : MethodName) (cc : ByteArray) (maxL : Nat) (ret : Option FieldType) (d mc ms : Nat) (as : List Value) (ad : Fa) (N : Nat → Nat) (I : Fi) (J : Fj) (R : Fr) (post : Po) : Prop :=
  Met l y (Cond.code y cc maxL ret :: lw_gd) (rmX d mc ms) (CP D dA base as ad N I J R) (CQ D dA base post) mc ms (fun q => base ≤ q)
theorem CP_blind {D : va_G} {dA : Nat → ClassId} {base : Nat} {as : List Value} {ad : Fa} {N : Nat → Nat} {I : Fi} {J : Fj} {R : Fr} : FrameBlind (CP D dA base as ad N I J R) := fun a U g mk h => ⟨h.1, h.2.1, h.2.2.1, va_K.moved (u := U) (U := U.calling g mk a) (Vm.Alike.refl U.vm) h.2.2.2⟩
theorem CT.of {l : Launch} {D : va_G} {dA : Nat → ClassId} {base : Nat} {y : MethodName} {cc : ByteArray} {maxL : Nat} {ret : Option FieldType} {d mc ms : Nat} {as : List Value} {ad : Fa} {N : Nat → Nat} {I : Fi} {J : Fj} {R : Fr} {post : Po} (t : Nat) {L0 : List (Option Value)} (hy : plainName y.cls = true) (hL : argL as ++ List.replicate t none = L0) (hlen : (lg_sl as).length ≤ maxL)
    (body : ∀ (p : Program) (e : Env) (s : State) (m : MethodId) (args : Array Value) (below : List Frame) (meth : Method) (c : Code), CX p s m args meth c cc maxL y.cls ret D dA base → GX p l e (rmX d mc ms) s m args below meth c (MQ below (CQ D dA base post) args s mc ms (fun q => base ≤ q)) D dA base maxL ad N I J R 0 0 0 L0 []) : CT l D dA base y cc maxL ret d mc ms as ad N I J R post := by
  refine Met.ofW (cc := cc) (maxL := maxL) (ret := ret) hy rfl ?_
  intro p e s m args below meth c s₁ B hml hv
  obtain ⟨rfl, hb, hH, hK⟩ := hv
  have hts := atoms_spec (ws := Cond.code y cc maxL ret :: lw_gd) B.pre
  have C : CX p s m as.toArray meth c cc maxL y.cls ret D dA base := ⟨B.exec, B.bytes, hml, findClass_of_methodNamed B.named, fun w h => hts w (List.mem_cons_of_mem _ h), hK, hb, B.returns, B.notSynchronized⟩
  rw [lg_entry_eq]
  exact body p e s m _ below meth c C s.heap [] _ hH va_S.rf (hL ▸ LVx.entry as t hlen)
/-- weaker ends -/
theorem CT.mono {l : Launch} {D : va_G} {dA : Nat → ClassId} {base : Nat} {y : MethodName} {cc : ByteArray} {maxL : Nat} {ret : Option FieldType} {d mc ms : Nat} {as : List Value} {ad : Fa} {N : Nat → Nat} {I : Fi} {J : Fj} {R : Fr} {post post' : Po} (h : CT l D dA base y cc maxL ret d mc ms as ad N I J R post) (hp : ∀ r a n i j k, post r a n i j k → post' r a n i j k) : CT l D dA base y cc maxL ret d mc ms as ad N I J R post' := by
  intro p e ha hc hk s m args below hf hpre hP hT
  obtain ⟨k, o, h1, h2, h3, ⟨⟨r, a, n, i, j, rr, e1, e2, e3⟩, hF⟩, h5⟩ := h p e ha hc hk s m args below hf hpre hP hT
  exact ⟨k, o, h1, h2, h3, ⟨⟨r, a, n, i, j, rr, e1, hp _ _ _ _ _ _ e2, e3⟩, hF⟩, h5⟩
section GXE
variable {p : Program} {l : Launch} {e : Env} {Rm : Room} {s : State} {m : MethodId} {args : Array Value} {below : List Frame} {meth : Method} {c : Code} {Q : State → Prop} {cc : ByteArray} {own : String} {ret : Option FieldType} {D : va_G} {dA : Nat → ClassId} {base nL : Nat} {ad : Fa} {N : Nat → Nat} {I : Fi} {J : Fj} {R : Fr} {nc ns pc mc ms : Nat} {L : List (Option Value)} {st : List Value} {post : Po}
theorem x_iret (C : CX p s m args meth c cc nL own (some .int) D dA base) {v : Int32} (hp : post (some (.int v)) ad N I J R) (d : decode cc pc = .ok (.ireturn, 1)) (h1 : nc ≤ mc := by first | exact Nat.le_refl _ | omega) (h2 : ns ≤ ms := by first | exact Nat.le_refl _ | omega) : GX p l e Rm s m args below meth c (MQ below (CQ D dA base post) args s mc ms (fun q => base ≤ q)) D dA base nL ad N I J R nc ns pc L [.int v] := fun H locs ls hH hS hl =>
  W.widen h1 h2 (W.iret C.1 C.2.1 C.2.2.2.2.2.2.2.1 (fun t ht hW => ⟨⟨_, ad, N, I, J, R, rfl, hp, by rw [ht]; exact hH⟩, hS.F ht⟩) hS.2.2 d C.2.2.2.2.2.2.2.2)
theorem x_zret (C : CX p s m args meth c cc nL own (some .boolean) D dA base) {v : Int32} (hz : v = 0 ∨ v = 1) (hp : post (some (.int v)) ad N I J R) (d : decode cc pc = .ok (.ireturn, 1)) (h1 : nc ≤ mc := by first | exact Nat.le_refl _ | omega) (h2 : ns ≤ ms := by first | exact Nat.le_refl _ | omega) : GX p l e Rm s m args below meth c (MQ below (CQ D dA base post) args s mc ms (fun q => base ≤ q)) D dA base nL ad N I J R nc ns pc L [.int v] := fun H locs ls hH hS hl =>
  W.widen h1 h2 (W.zret C.1 C.2.1 C.2.2.2.2.2.2.2.1 (by rcases hz with rfl | rfl <;> decide +kernel) (fun t ht hW => ⟨⟨_, ad, N, I, J, R, rfl, hp, by rw [ht]; exact hH⟩, hS.F ht⟩) hS.2.2 d C.2.2.2.2.2.2.2.2)
theorem x_lret (C : CX p s m args meth c cc nL own (some .long) D dA base) {v : Int64} (hp : post (some (.long v)) ad N I J R) (d : decode cc pc = .ok (.lreturn, 1)) (h1 : nc ≤ mc := by first | exact Nat.le_refl _ | omega) (h2 : ns ≤ ms := by first | exact Nat.le_refl _ | omega) : GX p l e Rm s m args below meth c (MQ below (CQ D dA base post) args s mc ms (fun q => base ≤ q)) D dA base nL ad N I J R nc ns pc L [.long v] := fun H locs ls hH hS hl =>
  W.widen h1 h2 (W.lret C.1 C.2.1 C.2.2.2.2.2.2.2.1 (fun t ht hW => ⟨⟨_, ad, N, I, J, R, rfl, hp, by rw [ht]; exact hH⟩, hS.F ht⟩) hS.2.2 d C.2.2.2.2.2.2.2.2)
theorem x_vret (C : CX p s m args meth c cc nL own none D dA base) (hp : post none ad N I J R) (d : decode cc pc = .ok (.return_, 1)) (h1 : nc ≤ mc := by first | exact Nat.le_refl _ | omega) (h2 : ns ≤ ms := by first | exact Nat.le_refl _ | omega) : GX p l e Rm s m args below meth c (MQ below (CQ D dA base post) args s mc ms (fun q => base ≤ q)) D dA base nL ad N I J R nc ns pc L [] := fun H locs ls hH hS hl =>
  W.widen h1 h2 (W.vret C.1 C.2.1 C.2.2.2.2.2.2.2.1 (fun t ht hW => ⟨⟨_, ad, N, I, J, R, rfl, hp, by rw [ht]; exact hH⟩, hS.F ht⟩) hS.2.2 d C.2.2.2.2.2.2.2.2)
theorem x_aret {rt : FieldType} (C : CX p s m args meth c cc nL own (some rt) D dA base) {v : Value} (hrt : (∃ n, rt = .object n) ∨ ∃ t, rt = .array t) (hv : v = .null ∨ ∃ a, v = .ref a) (hp : post (some v) ad N I J R) (d : decode cc pc = .ok (.areturn, 1)) (h1 : nc ≤ mc := by first | exact Nat.le_refl _ | omega) (h2 : ns ≤ ms := by first | exact Nat.le_refl _ | omega) : GX p l e Rm s m args below meth c (MQ below (CQ D dA base post) args s mc ms (fun q => base ≤ q)) D dA base nL ad N I J R nc ns pc L [v] := fun H locs ls hH hS hl =>
  W.widen h1 h2 (W.aret C.1 C.2.1 C.2.2.2.2.2.2.2.1 hrt hv (fun t ht hW => ⟨⟨_, ad, N, I, J, R, rfl, hp, by rw [ht]; exact hH⟩, hS.F ht⟩) hS.2.2 d C.2.2.2.2.2.2.2.2)
/-- what the tables say of a method -/
def YOK (y : MethodName) (cc : ByteArray) (maxL : Nat) (ret : Option FieldType) (n : Nat) : Prop := Cond.instanceMethod y ∈ lw_gd ∧ Cond.selects y.cls y y ∈ lw_gd ∧ Cond.initialized y.cls ∈ lw_gd ∧ Cond.code y cc maxL ret ∈ lw_gd ∧ (y.cls ≠ "java/lang/invoke/MethodHandle" ∧ y.cls ≠ "java/lang/invoke/VarHandle" ∧ (parseMethodDescriptor y.desc).map (fun d => d.parameters.length) = some n)
def YOS (y : MethodName) (cc : ByteArray) (maxL : Nat) (ret : Option FieldType) (n : Nat) : Prop := Cond.static y ∈ lw_gd ∧ Cond.initialized y.cls ∈ lw_gd ∧ Cond.code y cc maxL ret ∈ lw_gd ∧ (y.cls ≠ "java/lang/invoke/MethodHandle" ∧ y.cls ≠ "java/lang/invoke/VarHandle" ∧ (parseMethodDescriptor y.desc).map (fun d => d.parameters.length) = some n)
theorem gd_GI {ws : List Cond} (h : ∀ w ∈ ws, w ∈ lw_gd) : GoodIn lw_gd ws := fun w hw => ⟨h w hw, good_of_word (gd_good (h w hw))⟩
variable {y : MethodName} {cc2 : ByteArray} {maxL2 n idx d2 : Nat} {ret2 : Option FieldType} {As rest st0 : List Value}
theorem x_run {H : Heap} {locs : List Loc} {ls : Array Slot} (hS : va_S (fun q => base ≤ q) s.heap H locs) (hl : LVx nL L ls) {a : Array Value} (hr : va_Run p l e Rm s m args below meth c H locs nc ns mc ms (F0 m pc ls st0) rest (CQ D dA base post a) (fun q => base ≤ q))
    (kk : ∀ r ad' N' I' J' R', post r ad' N' I' J' R' → GX p l e Rm s m args below meth c Q D dA base nL ad' N' I' J' R' (nc + mc) (ns + ms) (pc + 3) L (r.toList ++ rest)) : W p l e Rm s m args below meth c H locs nc ns Q (F0 m pc ls st0) := by
  intro T hT X
  obtain ⟨v, st₀, t, T', Lc, h0, X', hL, e1, e2, ⟨⟨r, ad', N', I', J', R', hv, hp, hH'⟩, hz, hk⟩, stp⟩ := hr T hT X
  cases hv
  rw [h0] at hz hk
  obtain ⟨t2, a1, b1⟩ := kk v ad' N' I' J' R' hp T'.heap (locs ++ Lc) ls (by rw [e1]; exact hH')
    ⟨Nat.le_trans hS.1 (by rw [e1]; exact hz), fun q h1 h2 => by rw [e1, hk q (Nat.lt_of_lt_of_le h1 hS.1) h2]; exact hS.2.1 q h1 h2, fun q hq => by
      rcases List.mem_append.mp hq with h | h
      · exact hS.2.2 q h
      · exact hL q h⟩ hl T' rfl X'
  exact ⟨t2, stp t2 a1, b1⟩
theorem x_callV (C : CX p s m args meth c cc nL own ret D dA base) (yo : YOK y cc2 maxL2 ret2 n) (ml : Cond.methodLink own idx y ∈ lw_gd) {kc i ci nf : Nat} {T : u_T} (hk : kd kc = (0, ci, nf)) (hci : vwCl[ci]? = some (y.cls, T, nf)) (hi : i < N kc)
    (hM : CT l D dA base y cc2 maxL2 ret2 d2 mc ms (.ref (ad kc i) :: As) ad N I J R post) (d : decode cc pc = .ok (.invokevirtual idx, 3)) (hst : st = As.reverse ++ .ref (ad kc i) :: rest) (hn : As.length = n) (hW : (rest.map fun v => v.category).sum ≤ 8) (hR : d2 + 1 ≤ Rm.frames ∧ 8 + (maxL2 + 11) + 30 * d2 ≤ Rm.locals) (hf : nc + mc ≤ Rm.cells ∧ ns + ms ≤ Rm.slots)
    (kk : ∀ r ad' N' I' J' R', post r ad' N' I' J' R' → GX p l e Rm s m args below meth c Q D dA base nL ad' N' I' J' R' (nc + mc) (ns + ms) (pc + 3) L (r.toList ++ rest)) : GX p l e Rm s m args below meth c Q D dA base nL ad N I J R nc ns pc L st := fun H locs ls hH hS hl => by
  subst hst
  obtain ⟨y1, y2, y3, y4, y5⟩ := yo
  obtain ⟨cell, q1, q2, q3, -⟩ := hH.obj hi hk
  have hK := C.2.2.2.2.2.1
  have cw : CallW Rm s args own y.cls idx y cc2 maxL2 ret2 (Cond.code y cc2 maxL2 ret2 :: lw_gd) (rmX d2 mc ms) mc ms n := cwV n C.2.2.2.2.1 (gd_GI (fun w hw => by
    simp only [wsV, List.cons_append, List.nil_append, List.mem_cons] at hw
    rcases hw with rfl | rfl | rfl | rfl | rfl | hw <;> assumption)) rfl rfl rfl ⟨rfl, y5⟩ hR
  refine x_run (post := post) (a := (Value.ref (ad kc i) :: As).toArray) hS hl (va_runV (Ts := lw_gd) (nL := nL) (As := As) (rest := rest) ⟨C.1, C.2.1, C.2.2.1, C.2.2.2.1, C.2.2.2.2.1⟩ hM cw ⟨CP_blind, ⟨cell, q1, by rw [q3]; rfl, by rw [q2]; exact (hK.1 ci _ hci).2.1⟩, fun U hU hW2 => ⟨rfl, by rw [hU]; exact Nat.le_trans C.2.2.2.2.2.2.1 hS.1, by rw [hU]; exact hH, va_K.moved hW2.alike hK⟩⟩ rfl hn hl.1 rfl (lv_room hW) d hf) kk
theorem x_callS (C : CX p s m args meth c cc nL own ret D dA base) (yo : YOS y cc2 maxL2 ret2 n) (hy : y.cls = own) (ml : Cond.methodLink own idx y ∈ lw_gd)
    (hM : CT l D dA base y cc2 maxL2 ret2 d2 mc ms As ad N I J R post) (d : decode cc pc = .ok (.invokestatic idx, 3)) (hst : st = As.reverse ++ rest) (hn : As.length = n) (hW : (rest.map fun v => v.category).sum ≤ 8) (hR : d2 + 1 ≤ Rm.frames ∧ 8 + (maxL2 + 11) + 30 * d2 ≤ Rm.locals) (hf : nc + mc ≤ Rm.cells ∧ ns + ms ≤ Rm.slots)
    (kk : ∀ r ad' N' I' J' R', post r ad' N' I' J' R' → GX p l e Rm s m args below meth c Q D dA base nL ad' N' I' J' R' (nc + mc) (ns + ms) (pc + 3) L (r.toList ++ rest)) : GX p l e Rm s m args below meth c Q D dA base nL ad N I J R nc ns pc L st := fun H locs ls hH hS hl => by
  subst hst
  obtain ⟨y1, y3, y4, y5⟩ := yo
  have hK := C.2.2.2.2.2.1
  have cw := cwS (R := Rm) (rm := rmX d2 mc ms) (mc := mc) (ms := ms) (own := own) (index := idx) (y := y) (ws := Cond.code y cc2 maxL2 ret2 :: lw_gd) n C.2.2.2.2.1 (gd_GI (fun w hw => by
    simp only [wsS, List.cons_append, List.nil_append, List.mem_cons] at hw
    rcases hw with rfl | rfl | rfl | rfl | hw <;> first | assumption | (rw [← hy]; assumption))) rfl rfl rfl ⟨hy, y5⟩ hR
  refine x_run (post := post) (a := As.toArray) hS hl (va_runS (Ts := lw_gd) (nL := nL) (As := As) (rest := rest) ⟨C.1, C.2.1, C.2.2.1, C.2.2.2.1, C.2.2.2.2.1⟩ hM cw ⟨CP_blind, fun U hU hW2 => ⟨rfl, by rw [hU]; exact Nat.le_trans C.2.2.2.2.2.2.1 hS.1, by rw [hU]; exact hH, va_K.moved hW2.alike hK⟩⟩ rfl hn hl.1 rfl (lv_room hW) d hf) kk
end GXE

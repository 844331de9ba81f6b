/-! how many cells of each kind there are when n keys are made; the fields that never change once made -/
def Nn (n c : Nat) : Nat := match c with
  | 0 => 1
  | 1 => 1
  | 2 => 1
  | 3 => 1
  | 11 => 1
  | 12 => 1
  | 23 => 1
  | 24 => 1
  | 25 => 1
  | 26 => 1
  | 27 => 1
  | 28 => 1
  | 29 => 1
  | 30 => 1
  | 31 => 1
  | 32 => 1
  | 33 => 1
  | 34 => 1
  | 35 => 1
  | 36 => 1
  | 37 => 1
  | 38 => 1
  | 39 => 1
  | 40 => 1
  | 41 => 1
  | 42 => 1
  | 44 => 1
  | 4 => n
  | 5 => n
  | 6 => n
  | 7 => n
  | 8 => n
  | 9 => 5
  | 10 => 5
  | _ => 0
def sfin (c k : Nat) : Bool := match c with
  | 0 => k == 0 || k == 3 || k == 4
  | 4 => k == 2 || k == 12 || k == 17
  | 7 => k == 2
  | 9 => k == 0
  | 11 => !(k == 0 || k == 1 || k == 2 || k == 23) && Nat.blt k 25
  | _ => false
def ST (n : Nat) (R : Fr) : Prop := ∀ c i k, i < Nn n c → sfin c k = true → R c i k = some i
theorem ST.up {n : Nat} {R : Fr} (h : ST n R) {c i k : Nat} {v : Option Nat} (hf : sfin c k = false) : ST n (up3 R c i k v) := fun c' i' k' hi hs => by
  rw [up3_n R c i k v (fun z => by obtain ⟨rfl, rfl, rfl⟩ := z; rw [hf] at hs; cases hs)]
  exact h c' i' k' hi hs
def po (r : Option Value) (ad : Fa) (N : Nat → Nat) (I : Fi) (J : Fj) (R : Fr) : Po := fun r' a n i j k => r' = r ∧ a = ad ∧ n = N ∧ i = I ∧ j = J ∧ k = R
theorem po_i (r : Option Value) (ad : Fa) (N : Nat → Nat) (I : Fi) (J : Fj) (R : Fr) : po r ad N I J R r ad N I J R := ⟨rfl, rfl, rfl, rfl, rfl, rfl⟩
theorem po_r {r r2 : Option Value} {ad : Fa} {N : Nat → Nat} {I : Fi} {J : Fj} {R : Fr} (h : r = r2) : po r2 ad N I J R r ad N I J R := ⟨h, rfl, rfl, rfl, rfl, rfl⟩
section GXN
variable {p : Program} {l : Launch} {e : Env} {Rm : Room} {s : State} {m : MethodId} {args : Array Value} {below : List Frame} {meth : Method} {c : Code} {Q : State → Prop} {cc : ByteArray} {own : String} {ret : Option FieldType} {D : va_G} {dA : Nat → ClassId} {base nL : Nat} {ad : Fa} {N : Nat → Nat} {I I1 : Fi} {J J1 : Fj} {R R1 : Fr} {nc ns pc mc ms n : Nat} {L : List (Option Value)} {st : List Value}
theorem x_getF (C : CX p s m args meth c cc nL own ret D dA base) (hT : ST n R) {idx kc k i t : Nat} (f : FOK own idx kc k) (hs : sty kc k = t + 2) (hfn : sfin kc k = true) (hi : i < Nn n kc) (d : decode cc pc = .ok (.getfield idx, 3)) (kk : GX p l e Rm s m args below meth c Q D dA base nL ad (Nn n) I J R nc ns (pc + 3) L (.ref (ad t i) :: st)) : GX p l e Rm s m args below meth c Q D dA base nL ad (Nn n) I J R nc ns (pc) L (.ref (ad kc i) :: st) := x_getR C f hs (hT kc i k hi hfn) hi d kk
theorem x_ialdN (C : CX p s m args meth c cc nL own ret D dA base) {kc i nn : Nat} {j : Int32} (k : Nat) (ek : j = nI k) (hk : kd kc = (1, 0, nn)) (hs : sty kc k = 0) (hi : i < N kc) (hkn : k < nn) (hb : nn < 2 ^ 31) (d : decode cc pc = .ok (.iaload, 1)) (kk : GX p l e Rm s m args below meth c Q D dA base nL ad N I J R nc ns (pc + 1) L (.int (I kc i k) :: st)) : GX p l e Rm s m args below meth c Q D dA base nL ad N I J R nc ns (pc) L (.int j :: .ref (ad kc i) :: st) := by
  subst ek
  have hc : (nI k).toNatClampNeg = k := nI_clamp (by omega)
  exact x_iald C hk (by rw [hc]; exact hs) hi (vp_in_nI hkn hb) d (by rw [hc]; exact kk)
theorem x_zaldN (C : CX p s m args meth c cc nL own ret D dA base) {kc i nn : Nat} {j : Int32} (k : Nat) (ek : j = nI k) (hk : kd kc = (1, 2, nn)) (hs : sty kc k = 0) (hi : i < N kc) (hkn : k < nn) (hb : nn < 2 ^ 31) (d : decode cc pc = .ok (.baload, 1)) (kk : GX p l e Rm s m args below meth c Q D dA base nL ad N I J R nc ns (pc + 1) L (.int (I kc i k) :: st)) : GX p l e Rm s m args below meth c Q D dA base nL ad N I J R nc ns (pc) L (.int j :: .ref (ad kc i) :: st) := by
  subst ek
  have hc : (nI k).toNatClampNeg = k := nI_clamp (by omega)
  exact x_zald C hk (by rw [hc]; exact hs) hi (vp_in_nI hkn hb) d (by rw [hc]; exact kk)
theorem x_laldN (C : CX p s m args meth c cc nL own ret D dA base) {kc i nn : Nat} {j : Int32} (k : Nat) (ek : j = nI k) (hk : kd kc = (1, 1, nn)) (hs : sty kc k = 1) (hi : i < N kc) (hkn : k < nn) (hb : nn < 2 ^ 31) (d : decode cc pc = .ok (.laload, 1)) (kk : GX p l e Rm s m args below meth c Q D dA base nL ad N I J R nc ns (pc + 1) L (.long (J kc i k) :: st)) : GX p l e Rm s m args below meth c Q D dA base nL ad N I J R nc ns (pc) L (.int j :: .ref (ad kc i) :: st) := by
  subst ek
  have hc : (nI k).toNatClampNeg = k := nI_clamp (by omega)
  exact x_lald C hk (by rw [hc]; exact hs) hi (vp_in_nI hkn hb) d (by rw [hc]; exact kk)
theorem x_aaldS (C : CX p s m args meth c cc nL own ret D dA base) {kc i nn ta t y : Nat} {j : Int32} {Cn : String} (k : Nat) (ek : j = nI k) (hk : kd kc = (1, ta, nn)) (hta : (tysX dA)[ta]? = some (dA ta, .object Cn)) (hs : sty kc k = t + 2) (hi : i < N kc) (hkn : k < nn) (hb : nn < 2 ^ 31) (hr : R kc i k = some y) (d : decode cc pc = .ok (.aaload, 1)) (kk : GX p l e Rm s m args below meth c Q D dA base nL ad N I J R nc ns (pc + 1) L (.ref (ad t y) :: st)) : GX p l e Rm s m args below meth c Q D dA base nL ad N I J R nc ns (pc) L (.int j :: .ref (ad kc i) :: st) := by
  subst ek
  have hc : (nI k).toNatClampNeg = k := nI_clamp (by omega)
  exact x_aald C hk hta (by rw [hc]; exact hs) hi (vp_in_nI hkn hb) d (fun z => by rw [hc, hr] at z; cases z) (fun y2 z => by rw [hc, hr] at z; cases z; exact kk)
theorem x_iastN (C : CX p s m args meth c cc nL own ret D dA base) {kc i nn : Nat} {j : Int32} {x : Int32} (k : Nat) (ek : j = nI k) (hk : kd kc = (1, 0, nn)) (hs : sty kc k = 0) (hi : i < N kc) (hkn : k < nn) (hb : nn < 2 ^ 31) (d : decode cc pc = .ok (.iastore, 1)) (kk : GX p l e Rm s m args below meth c Q D dA base nL ad N (up3 I kc i k x) J R nc ns (pc + 1) L st) : GX p l e Rm s m args below meth c Q D dA base nL ad N I J R nc ns (pc) L (.int x :: .int j :: .ref (ad kc i) :: st) := by
  subst ek
  have hc : (nI k).toNatClampNeg = k := nI_clamp (by omega)
  exact x_iast C hk (by rw [hc]; exact hs) hi (vp_in_nI hkn hb) d (by rw [hc]; exact kk)
theorem x_zastN (C : CX p s m args meth c cc nL own ret D dA base) {kc i nn : Nat} {j : Int32} {x : Int32} (k : Nat) (ek : j = nI k) (hk : kd kc = (1, 2, nn)) (hs : sty kc k = 0) (hi : i < N kc) (hkn : k < nn) (hb : nn < 2 ^ 31) (hz : x = 0 ∨ x = 1) (d : decode cc pc = .ok (.bastore, 1)) (kk : GX p l e Rm s m args below meth c Q D dA base nL ad N (up3 I kc i k x) J R nc ns (pc + 1) L st) : GX p l e Rm s m args below meth c Q D dA base nL ad N I J R nc ns (pc) L (.int x :: .int j :: .ref (ad kc i) :: st) := by
  subst ek
  have hc : (nI k).toNatClampNeg = k := nI_clamp (by omega)
  exact x_zast C hk (by rw [hc]; exact hs) hi (vp_in_nI hkn hb) hz d (by rw [hc]; exact kk)
theorem x_lastN (C : CX p s m args meth c cc nL own ret D dA base) {kc i nn : Nat} {j : Int32} {x : Int64} (k : Nat) (ek : j = nI k) (hk : kd kc = (1, 1, nn)) (hs : sty kc k = 1) (hi : i < N kc) (hkn : k < nn) (hb : nn < 2 ^ 31) (d : decode cc pc = .ok (.lastore, 1)) (kk : GX p l e Rm s m args below meth c Q D dA base nL ad N I (up3 J kc i k x) R nc ns (pc + 1) L st) : GX p l e Rm s m args below meth c Q D dA base nL ad N I J R nc ns (pc) L (.long x :: .int j :: .ref (ad kc i) :: st) := by
  subst ek
  have hc : (nI k).toNatClampNeg = k := nI_clamp (by omega)
  exact x_last C hk (by rw [hc]; exact hs) hi (vp_in_nI hkn hb) d (by rw [hc]; exact kk)
theorem x_aastN (C : CX p s m args meth c cc nL own ret D dA base) {kc i nn ta t y ci nf : Nat} {j : Int32} {r : vw_C} (k : Nat) (ek : j = nI k) (hk : kd kc = (1, ta, nn)) (hta : (tysX dA)[ta]? = some (dA ta, .object r.1)) (hs : sty kc k = t + 2) (hkt : kd t = (0, ci, nf)) (hci : vwCl[ci]? = some r) (hi : i < N kc) (hy : y < N t) (hkn : k < nn) (hb : nn < 2 ^ 31) (d : decode cc pc = .ok (.aastore, 1)) (kk : GX p l e Rm s m args below meth c Q D dA base nL ad N I J (up3 R kc i k (some y)) nc ns (pc + 1) L st) : GX p l e Rm s m args below meth c Q D dA base nL ad N I J R nc ns (pc) L (.ref (ad t y) :: .int j :: .ref (ad kc i) :: st) := by
  subst ek
  have hc : (nI k).toNatClampNeg = k := nI_clamp (by omega)
  exact x_aast C hk hta (by rw [hc]; exact hs) hkt hci hi hy (vp_in_nI hkn hb) d (by rw [hc]; exact kk)
theorem x_cV1 (C : CX p s m args meth c cc nL own ret D dA base) {v : Value} {y : MethodName} {cc2 : ByteArray} {maxL2 n2 idx d2 : Nat} {ret2 : Option FieldType} {As rest : List Value} (yo : YOK y cc2 maxL2 ret2 n2) (ml : Cond.methodLink own idx y ∈ lw_gd) {kc i ci nf : Nat} {T : u_T} (hk : kd kc = (0, ci, nf)) (hci : vwCl[ci]? = some (y.cls, T, nf)) (hi : i < N kc) (hM : CT l D dA base y cc2 maxL2 ret2 d2 mc ms (.ref (ad kc i) :: As) ad N I J R (po (some v) ad N I1 J1 R1)) (d : decode cc pc = .ok (.invokevirtual idx, 3)) (hst : st = As.reverse ++ .ref (ad kc i) :: rest) (hn : As.length = n2) (hW : (rest.map fun v => v.category).sum ≤ 8) (hR : d2 + 1 ≤ Rm.frames ∧ 8 + (maxL2 + 11) + 30 * d2 ≤ Rm.locals) (hf : nc + mc ≤ Rm.cells ∧ ns + ms ≤ Rm.slots) (kk : GX p l e Rm s m args below meth c Q D dA base nL ad N I1 J1 R1 (nc + mc) (ns + ms) (pc + 3) L (v :: rest)) : GX p l e Rm s m args below meth c Q D dA base nL ad N I J R nc ns (pc) L st := x_callV C yo ml hk hci hi hM d hst hn hW hR hf (fun r a n i j k h => by obtain ⟨rfl, rfl, rfl, rfl, rfl, rfl⟩ := h; exact kk)
theorem x_cS1 (C : CX p s m args meth c cc nL own ret D dA base) {v : Value} {y : MethodName} {cc2 : ByteArray} {maxL2 n2 idx d2 : Nat} {ret2 : Option FieldType} {As rest : List Value} (yo : YOS y cc2 maxL2 ret2 n2) (hy : y.cls = own) (ml : Cond.methodLink own idx y ∈ lw_gd) (hM : CT l D dA base y cc2 maxL2 ret2 d2 mc ms As ad N I J R (po (some v) ad N I1 J1 R1)) (d : decode cc pc = .ok (.invokestatic idx, 3)) (hst : st = As.reverse ++ rest) (hn : As.length = n2) (hW : (rest.map fun v => v.category).sum ≤ 8) (hR : d2 + 1 ≤ Rm.frames ∧ 8 + (maxL2 + 11) + 30 * d2 ≤ Rm.locals) (hf : nc + mc ≤ Rm.cells ∧ ns + ms ≤ Rm.slots) (kk : GX p l e Rm s m args below meth c Q D dA base nL ad N I1 J1 R1 (nc + mc) (ns + ms) (pc + 3) L (v :: rest)) : GX p l e Rm s m args below meth c Q D dA base nL ad N I J R nc ns (pc) L st := x_callS C yo hy ml hM d hst hn hW hR hf (fun r a n i j k h => by obtain ⟨rfl, rfl, rfl, rfl, rfl, rfl⟩ := h; exact kk)
theorem x_cV0 (C : CX p s m args meth c cc nL own ret D dA base) {y : MethodName} {cc2 : ByteArray} {maxL2 n2 idx d2 : Nat} {ret2 : Option FieldType} {As rest : List Value} (yo : YOK y cc2 maxL2 ret2 n2) (ml : Cond.methodLink own idx y ∈ lw_gd) {kc i ci nf : Nat} {T : u_T} (hk : kd kc = (0, ci, nf)) (hci : vwCl[ci]? = some (y.cls, T, nf)) (hi : i < N kc) (hM : CT l D dA base y cc2 maxL2 ret2 d2 mc ms (.ref (ad kc i) :: As) ad N I J R (po none ad N I1 J1 R1)) (d : decode cc pc = .ok (.invokevirtual idx, 3)) (hst : st = As.reverse ++ .ref (ad kc i) :: rest) (hn : As.length = n2) (hW : (rest.map fun v => v.category).sum ≤ 8) (hR : d2 + 1 ≤ Rm.frames ∧ 8 + (maxL2 + 11) + 30 * d2 ≤ Rm.locals) (hf : nc + mc ≤ Rm.cells ∧ ns + ms ≤ Rm.slots) (kk : GX p l e Rm s m args below meth c Q D dA base nL ad N I1 J1 R1 (nc + mc) (ns + ms) (pc + 3) L rest) : GX p l e Rm s m args below meth c Q D dA base nL ad N I J R nc ns (pc) L st := x_callV C yo ml hk hci hi hM d hst hn hW hR hf (fun r a n i j k h => by obtain ⟨rfl, rfl, rfl, rfl, rfl, rfl⟩ := h; exact kk)
theorem x_cS0 (C : CX p s m args meth c cc nL own ret D dA base) {y : MethodName} {cc2 : ByteArray} {maxL2 n2 idx d2 : Nat} {ret2 : Option FieldType} {As rest : List Value} (yo : YOS y cc2 maxL2 ret2 n2) (hy : y.cls = own) (ml : Cond.methodLink own idx y ∈ lw_gd) (hM : CT l D dA base y cc2 maxL2 ret2 d2 mc ms As ad N I J R (po none ad N I1 J1 R1)) (d : decode cc pc = .ok (.invokestatic idx, 3)) (hst : st = As.reverse ++ rest) (hn : As.length = n2) (hW : (rest.map fun v => v.category).sum ≤ 8) (hR : d2 + 1 ≤ Rm.frames ∧ 8 + (maxL2 + 11) + 30 * d2 ≤ Rm.locals) (hf : nc + mc ≤ Rm.cells ∧ ns + ms ≤ Rm.slots) (kk : GX p l e Rm s m args below meth c Q D dA base nL ad N I1 J1 R1 (nc + mc) (ns + ms) (pc + 3) L rest) : GX p l e Rm s m args below meth c Q D dA base nL ad N I J R nc ns (pc) L st := x_callS C yo hy ml hM d hst hn hW hR hf (fun r a n i j k h => by obtain ⟨rfl, rfl, rfl, rfl, rfl, rfl⟩ := h; exact kk)
end GXN

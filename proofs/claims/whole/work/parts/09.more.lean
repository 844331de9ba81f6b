/-! static methods of any class; Math.max; pure words of the functions -/
section GXO
variable {p : Program} {l : Launch} {e : Env} {Rm : Room} {s : State} {m : MethodId} {args : Array Value} {below : List Frame} {meth : Method} {c : Code} {Q : State → Prop} {cc : ByteArray} {own : String} {ret : Option FieldType} {D : va_G} {dA : Nat → ClassId} {base nL : Nat} {ad : Fa} {N : Nat → Nat} {I I1 : Fi} {J J1 : Fj} {R R1 : Fr} {nc ns pc mc ms n : Nat} {L : List (Option Value)} {st : List Value} {post : Po}
variable {y : MethodName} {cc2 : ByteArray} {maxL2 n2 idx d2 : Nat} {ret2 : Option FieldType} {As rest : List Value}
theorem x_callSo (C : CX p s m args meth c cc nL own ret D dA base) (yo : YOS y cc2 maxL2 ret2 n2) (ml : Cond.methodLink own idx y ∈ lw_gd)
    (hM : CT l D dA base y cc2 maxL2 ret2 d2 mc ms As ad N I J R post) (d : decode cc pc = .ok (.invokestatic idx, 3)) (hst : st = As.reverse ++ rest) (hn : As.length = n2) (hW : (rest.map fun v => v.category).sum ≤ 8) (hR : d2 + 1 ≤ Rm.frames ∧ 8 + (maxL2 + 11) + 30 * d2 ≤ Rm.locals) (hf : nc + mc ≤ Rm.cells ∧ ns + ms ≤ Rm.slots)
    (kk : ∀ r ad' N' I' J' R', post r ad' N' I' J' R' → GX p l e Rm s m args below meth c Q D dA base nL ad' N' I' J' R' (nc + mc) (ns + ms) (pc + 3) L (r.toList ++ rest)) : GX p l e Rm s m args below meth c Q D dA base nL ad N I J R nc ns (pc) L st := fun H locs ls hH hS hl => by
  subst hst
  obtain ⟨y1, y3, y4, y5⟩ := yo
  have hK := C.2.2.2.2.2.1
  have cw := va_cwS (R := Rm) (rm := rmX d2 mc ms) (mc := mc) (ms := ms) (own := own) (index := idx) (y := y) (ws := Cond.code y cc2 maxL2 ret2 :: lw_gd) n2 C.2.2.2.2.1 (gd_GI (fun w hw => by
    simp only [va_wsS, List.cons_append, List.nil_append, List.mem_cons] at hw
    rcases hw with rfl | rfl | rfl | rfl | hw <;> assumption)) rfl rfl rfl y5 hR
  refine x_run (post := post) (a := As.toArray) hS hl (va_runS (Ts := lw_gd) (nL := nL) (As := As) (rest := rest) ⟨C.1, C.2.1, C.2.2.1, C.2.2.2.1, C.2.2.2.2.1⟩ hM cw ⟨CP_blind, fun U hU hW2 => ⟨rfl, by rw [hU]; exact Nat.le_trans C.2.2.2.2.2.2.1 hS.1, by rw [hU]; exact hH, va_K.moved hW2.alike hK⟩⟩ rfl hn hl.1 rfl (lv_room hW) d hf) kk
theorem x_cO1 (C : CX p s m args meth c cc nL own ret D dA base) {v : Value} (yo : YOS y cc2 maxL2 ret2 n2) (ml : Cond.methodLink own idx y ∈ lw_gd) (hM : CT l D dA base y cc2 maxL2 ret2 d2 mc ms As ad N I J R (po (some v) ad N I1 J1 R1)) (d : decode cc pc = .ok (.invokestatic idx, 3)) (hst : st = As.reverse ++ rest) (hn : As.length = n2) (hW : (rest.map fun v => v.category).sum ≤ 8) (hR : d2 + 1 ≤ Rm.frames ∧ 8 + (maxL2 + 11) + 30 * d2 ≤ Rm.locals) (hf : nc + mc ≤ Rm.cells ∧ ns + ms ≤ Rm.slots) (kk : GX p l e Rm s m args below meth c Q D dA base nL ad N I1 J1 R1 (nc + mc) (ns + ms) (pc + 3) L (v :: rest)) : GX p l e Rm s m args below meth c Q D dA base nL ad N I J R nc ns (pc) L st := x_callSo C yo ml hM d hst hn hW hR hf (fun r a n i j k h => by obtain ⟨rfl, rfl, rfl, rfl, rfl, rfl⟩ := h; exact kk)
theorem x_lmax (C : CX p s m args meth c cc nL own ret D dA base) {x y : Int64} (ml : Cond.methodLink own idx Lib.MathLoose.max_long.x ∈ lw_gd) (h2 : Cond.static Lib.MathLoose.max_long.x ∈ lw_gd) (h3 : Cond.initialized "java/lang/Math" ∈ lw_gd) (h4 : Cond.code Lib.MathLoose.max_long.x Lib.MathLoose.max_long.code 4 (some .long) ∈ lw_gd) (hf : 1 ≤ Rm.frames) (hlo : (st.map fun v => v.category).sum + 15 ≤ Rm.locals) (hc : nc ≤ Rm.cells) (hs : ns ≤ Rm.slots) (d : decode cc pc = .ok (.invokestatic idx, 3)) (kk : GX p l e Rm s m args below meth c Q D dA base nL ad N I J R nc ns (pc + 3) L (.long (if y < x then x else y) :: st)) : GX p l e Rm s m args below meth c Q D dA base nL ad N I J R nc ns (pc) L (.long y :: .long x :: st) := fun H locs ls hH hS hl => va_mmax_long C.1 C.2.1 (by rw [C.2.2.1, hl.1]) C.2.2.2.1 (C.2.2.2.2.1 _ ml) (C.2.2.2.2.1 _ h2) (C.2.2.2.2.1 _ h3) (C.2.2.2.2.1 _ h4) hf hlo hc hs d (kk H locs ls hH hS hl)
end GXO
theorem mx_1 : Cond.methodLink RX2 68 Lib.MathLoose.max_long.x ∈ lw_gd := gd_in (by decide +kernel) rfl
theorem mx_2 : Cond.static Lib.MathLoose.max_long.x ∈ lw_gd := gd_in (by decide +kernel) rfl
theorem mx_3 : Cond.initialized "java/lang/Math" ∈ lw_gd := gd_in (by decide +kernel) rfl
theorem mx_4 : Cond.code Lib.MathLoose.max_long.x Lib.MathLoose.max_long.code 4 (some .long) ∈ lw_gd := gd_in (by decide +kernel) rfl
theorem m_X2_58 : Cond.methodLink RX2 58 yJ9_floorMod_f86c9 ∈ lw_gd := gd_in (by decide +kernel) rfl
theorem yo_floorMod : YOS yJ9_floorMod_f86c9 cJ9_floorMod_f86c9 6 (some .long) 2 := ⟨gd_in (by decide +kernel) rfl, gd_in (by decide +kernel) rfl, gd_in (by decide +kernel) rfl, by decide +kernel, by decide +kernel, by decide +kernel⟩
/-- Math.floorMod -/
def fmd (x y : Int64) : Int64 := if (x ^^^ y) < 0 ∧ ¬ (x - x / y * y = 0) then x - x / y * y + y else x - x / y * y
def npk (k o : Nat) (g : Int64) : Int32 := if k = 0 then 0 else if 1 < k ∨ o = 0 then -1 else 1 + (fmd g (lN o)).toInt32
/-- the place that comes next of a key with function f, of whose row of r keys k were asked -/
def npl (fl : Int32) (f k r : Nat) (g : Int64) : Int32 := if ¬ fl = 0 ∨ r ≤ k then -1 else if f = 1 then (if g = 0 then nI k else -1) else if f = 2 then npk k (r - 1) g else nI k
/-- what is gathered when v comes -/
def tkG (f k : Nat) (g v : Int64) : Int64 := if f = 1 ∨ f = 2 then v else if f = 3 then (if k = 0 then v else if v = 0 then g else g / v) else if f = 5 then (if k = 0 then v else if v < g then g else v) else g + v
def tkF (f k : Nat) (fl : Int32) (v : Int64) : Int32 := if f = 3 ∧ ¬ k = 0 ∧ v = 0 then 1 else fl
def rsl (f : Nat) (g : Int64) : Int64 := if f = 4 then g &&& 1 else g
theorem up3_e {α : Type} (f : Nat → Nat → Nat → α) (c i k : Nat) : up3 f c i k (f c i k) = f := by
  funext a b d
  by_cases h : a = c ∧ b = i ∧ d = k
  · obtain ⟨rfl, rfl, rfl⟩ := h; rw [up3_s]
  · rw [up3_n f c i k _ h]
theorem up3_u {α : Type} (f : Nat → Nat → Nat → α) (c i k : Nat) (v w : α) : up3 (up3 f c i k v) c i k w = up3 f c i k w := by
  funext a b d
  by_cases h : a = c ∧ b = i ∧ d = k
  · obtain ⟨rfl, rfl, rfl⟩ := h; rw [up3_s, up3_s]
  · rw [up3_n _ c i k _ h, up3_n f c i k _ h, up3_n f c i k _ h]
theorem up3_c {α : Type} (f : Nat → Nat → Nat → α) (c i k : Nat) (v : α) {a b d : Nat} (h : a ≠ c) : up3 f c i k v a b d = f a b d := up3_n f c i k v (fun z => h z.1)
theorem up3_k {α : Type} (f : Nat → Nat → Nat → α) (c i k : Nat) (v : α) {a b d : Nat} (h : d ≠ k) : up3 f c i k v a b d = f a b d := up3_n f c i k v (fun z => h z.2.2)
theorem up3_i {α : Type} (f : Nat → Nat → Nat → α) (c i k : Nat) (v : α) {a b d : Nat} (h : b ≠ i) : up3 f c i k v a b d = f a b d := up3_n f c i k v (fun z => h z.2.1)
theorem nI_m1 {x : Nat} (h : 0 < x) : nI x - 1 = nI (x - 1) := by
  obtain ⟨k, rfl⟩ : ∃ k, x = k + 1 := ⟨x - 1, by omega⟩
  exact nI_pred k
theorem lg_ne {x y : Int64} : (¬ lg_cmp x y = 0) ↔ ¬ x = y := not_congr (lg_cmp_eq x y)
theorem x_drop {p : Program} {l : Launch} {e : Env} {Rm : Room} {s : State} {m : MethodId} {args : Array Value} {below : List Frame} {meth : Method} {c : Code} {Q : State → Prop} {D : va_G} {dA : Nat → ClassId} {base nL : Nat} {ad : Fa} {N : Nat → Nat} {I : Fi} {J : Fj} {R : Fr} {nc ns pc : Nat} {L L1 : List (Option Value)} {st : List Value} (k : Nat) (e1 : L.set k none = L1) (kk : GX p l e Rm s m args below meth c Q D dA base nL ad N I J R nc ns pc L1 st) : GX p l e Rm s m args below meth c Q D dA base nL ad N I J R nc ns pc L st := fun H locs ls hH hS hl => kk H locs ls hH hS ⟨hl.1, hl.2.1, fun j v hj => by
  subst e1
  by_cases h : j = k
  · subst h
    rw [List.getElem?_set] at hj
    simp only [if_true] at hj
    split at hj <;> simp at hj
  · rw [List.getElem?_set_ne (Ne.symm h)] at hj
    exact hl.2.2 j v hj⟩
/-- locals, stack and place by equal terms -/
theorem x_eqL {p : Program} {l : Launch} {e : Env} {Rm : Room} {s : State} {m : MethodId} {args : Array Value} {below : List Frame} {meth : Method} {c : Code} {Q : State → Prop} {D : va_G} {dA : Nat → ClassId} {base nL : Nat} {ad : Fa} {N : Nat → Nat} {I I1 : Fi} {J J1 : Fj} {R R1 : Fr} {nc ns pc pc1 : Nat} {L L1 : List (Option Value)} {st st1 : List Value} (kk : GX p l e Rm s m args below meth c Q D dA base nL ad N I1 J1 R1 nc ns pc1 L1 st1) (hp : pc = pc1) (hL : L = L1) (hst : st = st1) (hI : I = I1) (hJ : J = J1) (hR : R = R1) : GX p l e Rm s m args below meth c Q D dA base nL ad N I J R nc ns pc L st := by
  subst hp; subst hL; subst hst; subst hI; subst hJ; subst hR; exact kk

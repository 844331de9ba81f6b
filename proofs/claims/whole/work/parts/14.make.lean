/-! NEW CELLS; constructors' contracts -/
def XT (U : State) : Prop := va_AO RX0 U ∧ va_AO RX1 U ∧ va_Nw (.methodLinkNest RX3 21 yX1_init RX3) U ∧ va_Nw (.methodLinkNest RX0 21 yX2_init RX3) U
theorem XT.warm {s U : State} (hW : s.WarmedH U.vm) (h : XT s) : XT U := ⟨h.1.moved hW.alike, h.2.1.moved hW.alike, h.2.2.1.warmM hW, h.2.2.2.warmM hW⟩
theorem XT.same {s U : State} (hv : s.vm = U.vm) (h : XT s) : XT U := ⟨h.1.moved (by rw [hv]; exact Vm.Alike.refl _), h.2.1.moved (by rw [hv]; exact Vm.Alike.refl _), h.2.2.1.same rfl hv, h.2.2.2.same rfl hv⟩
def CTx (l : Launch) (D : va_G) (dA : Nat → ClassId) (base : Nat) (y : MethodName) (cc : ByteArray) (maxL : Nat) (ret : Option FieldType) (d mc ms : Nat) (as : List Value) (ad : Fa) (N : Nat → Nat) (I : Fi) (J : Fj) (R : Fr) (post : Po) : Prop :=
  Met l y (Cond.code y cc maxL ret :: lw_gd) (rmX d mc ms) (fun v U => CP D dA base as ad N I J R v U ∧ XT U) (CQ D dA base post) mc ms (fun q => base ≤ q)
theorem CPx_blind {D : va_G} {dA : Nat → ClassId} {base : Nat} {as : List Value} {ad : Fa} {N : Nat → Nat} {I : Fi} {J : Fj} {R : Fr} : FrameBlind (fun v U => CP D dA base as ad N I J R v U ∧ XT U) := fun a U g mk h => ⟨CP_blind a U g mk h.1, h.2.same (U := U.calling g mk a) rfl⟩
theorem CTx.of {l : Launch} {D : va_G} {dA : Nat → ClassId} {base : Nat} {y : MethodName} {cc : ByteArray} {maxL : Nat} {ret : Option FieldType} {d mc ms : Nat} {as : List Value} {ad : Fa} {N : Nat → Nat} {I : Fi} {J : Fj} {R : Fr} {post : Po} (t : Nat) {L0 : List (Option Value)} (hy : plainName y.cls = true) (hL : argL as ++ List.replicate t none = L0) (hlen : (lg_sl as).length ≤ maxL)
    (body : ∀ (p : Program) (e : Env) (s : State) (m : MethodId) (args : Array Value) (below : List Frame) (meth : Method) (c : Code), CX p s m args meth c cc maxL y.cls ret D dA base → XT s → meth.name = y.name → GX p l e (rmX d mc ms) s m args below meth c (MQ below (CQ D dA base post) args s mc ms (fun q => base ≤ q)) D dA base maxL ad N I J R 0 0 0 L0 []) : CTx l D dA base y cc maxL ret d mc ms as ad N I J R post := by
  refine Met.ofW (cc := cc) (maxL := maxL) (ret := ret) hy rfl ?_
  intro p e s m args below meth c s₁ B hml hv
  obtain ⟨⟨rfl, hb, hH, hK⟩, hX⟩ := hv
  have hts := atoms_spec (ws := Cond.code y cc maxL ret :: lw_gd) B.pre
  have C : CX p s m as.toArray meth c cc maxL y.cls ret D dA base := ⟨B.exec, B.bytes, hml, findClass_of_methodNamed B.named, fun w h => hts w (List.mem_cons_of_mem _ h), hK, hb, B.returns, B.notSynchronized⟩
  rw [lg_entry_eq]
  exact body p e s m _ below meth c C hX (name_of_methodNamed B.named B.method).1 s.heap [] _ hH va_S.rf (hL ▸ LVx.entry as t hlen)
def upN (N : Nat → Nat) (kc : Nat) : Nat → Nat := fun c => if c = kc then N c + 1 else N c
/-- every reference in the store leads to a cell that is there -/
def CLo (N : Nat → Nat) (R : Fr) : Prop := ∀ c i k j t, i < N c → R c i k = some j → sty c k = t + 2 → j < N t
def dfv (t : Nat) : Value := match t with
  | 0 => .int 0
  | 1 => .long 0
  | _ => .null
/-- a cell that isn't there yet holds nothing -/
def Dft (I : Fi) (J : Fj) (R : Fr) (c i : Nat) : Prop := ∀ k, I c i k = 0 ∧ J c i k = 0 ∧ R c i k = none
theorem Dft_sv {ad : Fa} {I : Fi} {J : Fj} {R : Fr} {c i : Nat} (h : Dft I J R c i) (k : Nat) : sv ad I J R c i k = dfv (sty c k) := by
  obtain ⟨h1, h2, h3⟩ := h k
  unfold sv dfv
  split <;> simp_all
def adN (ad : Fa) (N : Nat → Nat) (kc q : Nat) : Fa := fun c i => if c = kc ∧ i = N kc then q else ad c i
theorem adN_o (ad : Fa) (N : Nat → Nat) (kc q : Nat) {c i : Nat} (hi : i < N c) : adN ad N kc q c i = ad c i := if_neg (fun z => by obtain ⟨rfl, rfl⟩ := z; omega)
theorem adN_n (ad : Fa) (N : Nat → Nat) (kc q : Nat) : adN ad N kc q kc (N kc) = q := if_pos ⟨rfl, rfl⟩
theorem HR.push {D : va_G} {dA : Nat → ClassId} {base : Nat} {ad : Fa} {N : Nat → Nat} {I : Fi} {J : Fj} {R : Fr} {H H1 : Heap} (h : HR D dA base ad N I J R H) (kc : Nat) (hb : base ≤ H.size) (hcl : CLo N R) (hn : cellAt D dA H1 H.size kc (fun k => dfv (sty kc k))) (hd : Dft I J R kc (N kc)) (ho : ∀ q : Nat, q < H.size → H1[q]? = H[q]?) :
    HR D dA base (adN ad N kc H.size) (upN N kc) I J R H1 := by
  have hlt : ∀ c i, i < N c → ad c i < H.size := fun c i hi => cellAt_lt (h.1 c i hi)
  have hcase : ∀ c i, i < upN N kc c → i < N c ∨ (c = kc ∧ i = N kc) := fun c i hi => by
    unfold upN at hi
    by_cases hc : c = kc
    · subst hc; rw [if_pos rfl] at hi; omega
    · rw [if_neg hc] at hi; exact Or.inl hi
  refine ⟨fun c i hi => ?_, fun c i c' i' hi hi' he => ?_, fun c i hi => ?_⟩
  · rcases hcase c i hi with hi | ⟨rfl, rfl⟩
    · have hs : sv (adN ad N kc H.size) I J R c i = sv ad I J R c i := by
        funext k
        unfold sv
        split
        · rfl
        · rfl
        · rename_i t ht
          split
          · rfl
          · rename_i j hj
            rw [adN_o ad N kc _ (hcl c i k j t hi hj ht)]
      rw [hs, adN_o ad N kc _ hi]
      exact cellAt_kept (h.1 c i hi) (ho _ (hlt c i hi))
    · have hs : sv (adN ad N c H.size) I J R c (N c) = fun k => dfv (sty c k) := funext fun k => Dft_sv hd k
      rw [hs, adN_n]
      exact hn
  · rcases hcase c i hi with hi | ⟨rfl, rfl⟩ <;> rcases hcase c' i' hi' with hi' | ⟨h1, h2⟩
    · rw [adN_o ad N kc _ hi, adN_o ad N kc _ hi'] at he
      exact h.2.1 c i c' i' hi hi' he
    · have := hlt c i hi
      rw [h1, h2, adN_n, adN_o ad N kc _ hi] at he
      omega
    · have := hlt c' i' hi'
      rw [adN_n, adN_o ad N c _ hi'] at he
      omega
    · exact ⟨h1.symm, h2.symm⟩
  · rcases hcase c i hi with hi | ⟨rfl, rfl⟩
    · rw [adN_o ad N kc _ hi]; exact h.2.2 c i hi
    · rw [adN_n]; exact hb
/-- entry idx of own names the place k of the objects of kind c, final, of type ty -/
def FOF (own : String) (idx c k : Nat) (ty : FieldType) : Prop := ∃ (ci n : Nat) (C : String) (T : u_T), kd c = (0, ci, n) ∧ vwCl[ci]? = some (C, T, n) ∧ k < n ∧ Cond.fieldLink own idx (T k).1 (T k).2.1 (T k).2.2.1 ∈ lw_gd ∧ (T k).2.2.2 = true ∧ parseFieldDescriptor (T k).2.2.1 = some ty ∧ (T k).1 = own
section GXM
variable {p : Program} {l : Launch} {e : Env} {Rm : Room} {s : State} {m : MethodId} {args : Array Value} {below : List Frame} {meth : Method} {c : Code} {Q : State → Prop} {cc : ByteArray} {own : String} {ret : Option FieldType} {D : va_G} {dA : Nat → ClassId} {base nL : Nat} {ad : Fa} {N : Nat → Nat} {I I' : Fi} {J J' : Fj} {R R' : Fr} {nc ns pc mc ms : Nat} {L : List (Option Value)} {st : List Value} {post : Po}
theorem x_objInit (C : CX p s m args meth c cc nL own ret D dA base) {idx a : Nat} (h1 : Cond.methodLink own idx objectInit ∈ lw_gd) (hf : 1 ≤ Rm.frames) (hlo : (st.map fun v => v.category).sum + 12 ≤ Rm.locals) (d : decode cc pc = .ok (.invokespecial idx, 3)) (h2 : Cond.instanceMethod objectInit ∈ lw_gd) (h3 : Cond.code objectInit ⟨#[0xb1]⟩ 1 none ∈ lw_gd) (kk : GX p l e Rm s m args below meth c Q D dA base nL ad N I J R nc ns (pc + 3) L st) : GX p l e Rm s m args below meth c Q D dA base nL ad N I J R nc ns pc L (.ref a :: st) := fun H locs ls hH hS hl =>
  W.objInit C.1 C.2.1 C.2.2.2.1 (C.2.2.2.2.1 _ h1) (C.2.2.2.2.1 _ h2) (C.2.2.2.2.1 _ h3) rfl (by rw [C.2.2.1]; exact hl.1) rfl d hf (by show 2 * 0 + _ + 12 ≤ _; omega) (kk H locs ls hH hS hl)
theorem x_putFV (C : CX p s m args meth c cc nL own ret D dA base) (hnm : meth.name = "<init>") {idx kc k i : Nat} {v : Value} {ty : FieldType} (f : FOF own idx kc k ty) (hi : i < N kc) (hn : narrow ty v = v) (hfit : fits ty v = true) (hv : sv ad I' J' R' kc i = updV (sv ad I J R kc i) k v) (hv' : ∀ c' i', ¬ (c' = kc ∧ i' = i) → sv ad I' J' R' c' i' = sv ad I J R c' i') (d : decode cc pc = .ok (.putfield idx, 3)) (kk : GX p l e Rm s m args below meth c Q D dA base nL ad N I' J' R' nc ns (pc + 3) L st) : GX p l e Rm s m args below meth c Q D dA base nL ad N I J R nc ns pc L (v :: .ref (ad kc i) :: st) := fun H locs ls hH hS hl => by
  obtain ⟨ci, n, C', T, h1, h2, h3, h4, hfin, hd, hdecl⟩ := f
  obtain ⟨ty0, hty, hnm2, hu⟩ := cok h2
  have hts := C.2.2.2.2.1
  have hK := C.2.2.2.2.2.1
  have hap := va_apart (own := own) hts hu ty0 hty hnm2 hK h2
  obtain ⟨cell, q1, q2, q3, q4⟩ := hH.obj hi h1
  obtain ⟨hSl, hfc, kC, hkC, hkind⟩ := hK.1 ci _ h2
  obtain ⟨cf, kf, fi, f, hfi, hsl⟩ := hSl k h3
  have hlay := hts _ (hu _ (u_in_lay h3))
  unfold u_lay at hlay
  rw [if_pos hfin] at hlay
  have hst := (u_facts hfc hkC (u_lays hts hu h3) hfi).1
  have hcf : m.cls = cf := by
    obtain ⟨_, _, c', _, _, _, -, -, hf', -, -, -, hown2, -⟩ := Cond.laysFinal_spec hlay
    have e1 : c' = cf := by have := hfi.symm.trans hf'; simp at this; exact this.1.symm
    rw [hdecl] at hown2
    rw [← e1]; exact Option.some.inj (C.2.2.2.1.symm.trans hown2)
  have h6 := u_fits hfc hkC hkind (Or.inr hlay) hfi hd hn hfit
  refine W.putFinK C.1 C.2.1 C.2.2.2.1 (hts _ h4) hfi hst hcf hnm (by rw [q2]; exact h6) q1 q3 (by rw [hsl]; exact k2_hasslot (q4 k h3)) rfl rfl d fun H' e1 e2 e3 => ?_
  rw [hsl] at e1 ⊢
  refine kk H' _ ls (hH.set hi ?_ e3 hv') (hS.put e2 e3 (hH.2.2 kc i hi)) hl
  unfold cellAt
  rw [h1, hv]
  exact ⟨_, e1, q2, q3, t_set q4 hap h3 v⟩
theorem x_putFI (C : CX p s m args meth c cc nL own ret D dA base) (hnm : meth.name = "<init>") {idx kc k i : Nat} {v : Int32} (f : FOF own idx kc k .int) (hs : sty kc k = 0) (hi : i < N kc) (d : decode cc pc = .ok (.putfield idx, 3)) (kk : GX p l e Rm s m args below meth c Q D dA base nL ad N (up3 I kc i k v) J R nc ns (pc + 3) L st) : GX p l e Rm s m args below meth c Q D dA base nL ad N I J R nc ns pc L (.int v :: .ref (ad kc i) :: st) := x_putFV C hnm f hi rfl rfl (sv_upI i hs v) (sv_upI' v) d kk
theorem x_putFR (C : CX p s m args meth c cc nL own ret D dA base) (hnm : meth.name = "<init>") {idx kc k i t j : Nat} {ty : FieldType} (f : FOF own idx kc k ty) (hs : sty kc k = t + 2) (hi : i < N kc) (hn : narrow ty (.ref (ad t j)) = .ref (ad t j)) (hfit : fits ty (.ref (ad t j)) = true) (d : decode cc pc = .ok (.putfield idx, 3)) (kk : GX p l e Rm s m args below meth c Q D dA base nL ad N I J (up3 R kc i k (some j)) nc ns (pc + 3) L st) : GX p l e Rm s m args below meth c Q D dA base nL ad N I J R nc ns pc L (.ref (ad t j) :: .ref (ad kc i) :: st) := x_putFV C hnm f hi hn hfit (sv_upR i hs j) (sv_upR' (some j)) d kk
theorem va_Spush {A : Nat → Prop} {H0 H H1 : Heap} {locs : List Loc} (hS : va_S A H0 H locs) (z1 : H1.size = H.size + 1) (o1 : ∀ q : Nat, q < H.size → H1[q]? = H[q]?) : va_S A H0 H1 locs := ⟨Nat.le_trans hS.1 (by omega), fun x h1 h2 => (o1 x (Nat.lt_of_lt_of_le h1 hS.1)).trans (hS.2.1 x h1 h2), hS.2.2⟩
theorem x_new (C : CX p s m args meth c cc nL own ret D dA base) {idx kc ci nf : Nat} {Cn : String} {T : u_T} (ty : Nat → FieldType) (hk : kd kc = (0, ci, nf)) (hci : vwCl[ci]? = some (Cn, T, nf)) (hty : ∀ k, k < nf → parseFieldDescriptor (T k).2.2.1 = some (ty k)) (hdv : ∀ k, k < nf → defaultValue (ty k) = dfv (sty kc k)) (h1 : Cond.classLink own idx Cn ∈ lw_gd) (h2 : Cond.instantiable Cn nf ∈ lw_gd) (h3 : Cond.initialized Cn ∈ lw_gd) (hcl : CLo N R) (hd : Dft I J R kc (N kc)) (hc : nc + 1 ≤ Rm.cells) (hs : ns + nf ≤ Rm.slots) (d : decode cc pc = .ok (.new idx, 3))
    (kk : ∀ ad' : Fa, (∀ c i, i < N c → ad' c i = ad c i) → GX p l e Rm s m args below meth c Q D dA base nL ad' (upN N kc) I J R (nc + 1) (ns + nf) (pc + 3) L (.ref (ad' kc (N kc)) :: st)) : GX p l e Rm s m args below meth c Q D dA base nL ad N I J R nc ns pc L st := fun H locs ls hH hS hl => by
  have hts := C.2.2.2.2.1
  obtain ⟨ty0, hty0, -, hu⟩ := cok hci
  have hKn := C.2.2.2.2.2.1.1 ci _ hci
  refine W.newcK C.1 C.2.1 C.2.2.2.1 (hts _ h1) (hts _ h2) (hts _ h3) rfl d hc hs hKn.2.1 rfl fun H1 kC hkC e1 z1 o1 => ?_
  have hb : base ≤ H.size := Nat.le_trans C.2.2.2.2.2.2.1 hS.1
  have hkk := kk (adN ad N kc H.size) (fun c i hi => adN_o ad N kc _ hi) H1 locs ls (hH.push kc hb hcl (by
    unfold cellAt
    rw [hk]
    exact (u_born ty hts hu hKn hkC e1 hty).to (fun j hj => hdv j hj)) hd o1) (va_Spush hS z1 o1) hl
  rw [adN_n] at hkk
  exact hkk
theorem x_newP (C : CX p s m args meth c cc nL own ret D dA base) {kc n t : Nat} {atype : ArrayType} {x : Int32} (hk : kd kc = (1, t, n)) (ht : (tysX dA)[t]? = some (dA t, newarray.typeOf atype)) (hx : x = nI n) (hn31 : n < 2 ^ 31) (hRA : va_RA s (dA t) (newarray.typeOf atype) → s.vm.findClass ("[" ++ (newarray.typeOf atype).toString) = some (dA t)) (hdv : ∀ k, defaultValue (newarray.typeOf atype) = dfv (sty kc k)) (h1 : Cond.arrayClass (newarray.typeOf atype) ∈ lw_gd) (hby : n * componentBytes (newarray.typeOf atype) ≤ 536870912) (hcl : CLo N R) (hd : Dft I J R kc (N kc)) (hc : nc + 1 ≤ Rm.cells) (hs : ns + n ≤ Rm.slots) (d : decode cc pc = .ok (.newarray atype, 2))
    (kk : ∀ ad' : Fa, (∀ c i, i < N c → ad' c i = ad c i) → GX p l e Rm s m args below meth c Q D dA base nL ad' (upN N kc) I J R (nc + 1) (ns + n) (pc + 2) L (.ref (ad' kc (N kc)) :: st)) : GX p l e Rm s m args below meth c Q D dA base nL ad N I J R nc ns pc L (.int x :: st) := fun H locs ls hH hS hl => by
  subst hx
  refine va_newaK C.1 C.2.1 (C.2.2.2.2.1 _ h1) rfl d rfl (nI_pos hn31) (nI_clamp hn31) hby hc hs rfl fun H1 cA e1 z1 o1 hAr hNm => ?_
  have hcA : cA = dA t := Option.some.inj (hNm.symm.trans (hRA (C.2.2.2.2.2.1.2 t _ ht).2))
  subst hcA
  have hb : base ≤ H.size := Nat.le_trans C.2.2.2.2.2.2.1 hS.1
  have hkk := kk (adN ad N kc H.size) (fun c i hi => adN_o ad N kc _ hi) H1 locs ls (hH.push kc hb hcl (by
    unfold cellAt
    rw [hk]
    exact e1.trans (by rw [show (fun _ : Nat => defaultValue (newarray.typeOf atype)) = (fun k => dfv (sty kc k)) from funext hdv])) hd o1) (va_Spush hS z1 o1) hl
  rw [adN_n] at hkk
  exact hkk
theorem x_newA (C : CX p s m args meth c cc nL own ret D dA base) {idx kc n t : Nat} {Cn : String} {x : Int32} (hk : kd kc = (1, t, n)) (ht : (tysX dA)[t]? = some (dA t, .object Cn)) (hx : x = nI n) (hn31 : n < 2 ^ 31) (hdv : ∀ k, Value.null = dfv (sty kc k)) (h1 : Cond.classLink own idx Cn ∈ lw_gd) (hov : va_AO Cn s) (hby : n * 4 ≤ 536870912) (hcl : CLo N R) (hd : Dft I J R kc (N kc)) (hc : nc + 1 ≤ Rm.cells) (hs : ns + n ≤ Rm.slots) (d : decode cc pc = .ok (.anewarray idx, 3))
    (kk : ∀ ad' : Fa, (∀ c i, i < N c → ad' c i = ad c i) → GX p l e Rm s m args below meth c Q D dA base nL ad' (upN N kc) I J R (nc + 1) (ns + n) (pc + 3) L (.ref (ad' kc (N kc)) :: st)) : GX p l e Rm s m args below meth c Q D dA base nL ad N I J R nc ns pc L (.int x :: st) := fun H locs ls hH hS hl => by
  subst hx
  refine W.anew C.1 C.2.1 C.2.2.2.1 (C.2.2.2.2.1 _ h1) hov.use rfl d rfl (nI_pos hn31) (by rw [nI_clamp hn31]; exact hby) hc (by rw [nI_clamp hn31]; exact hs) fun cA kA comp f1 f2 f3 f4 => ?_
  rw [nI_clamp hn31]
  obtain ⟨-, -, -, -, -, k4⟩ := (C.2.2.2.2.2.1.2 t _ ht).2
  have hcA : cA = dA t := Option.some.inj (f1.symm.trans k4)
  subst hcA
  generalize hH1 : H.push ({ cls := dA t, slots := Array.replicate n .null, vm := .none } : Cell) = H1
  have z1 : H1.size = H.size + 1 := by rw [← hH1, Array.size_push]
  have e1 : H1[H.size]? = some (arrV (dA t) n (fun _ => .null)) := by rw [← hH1, Array.getElem?_push_size, ← arrV_new]
  have o1 : ∀ q : Nat, q < H.size → H1[q]? = H[q]? := fun q hq => by rw [← hH1, Array.getElem?_push, if_neg (Nat.ne_of_lt hq)]
  have hb : base ≤ H.size := Nat.le_trans C.2.2.2.2.2.2.1 hS.1
  have hkk := kk (adN ad N kc H.size) (fun c i hi => adN_o ad N kc _ hi) H1 locs ls (hH.push kc hb hcl (by
    unfold cellAt
    rw [hk]
    exact e1.trans (by rw [show (fun _ : Nat => Value.null) = (fun k => dfv (sty kc k)) from funext hdv])) hd o1) (va_Spush hS z1 o1) hl
  rw [adN_n] at hkk
  exact hkk
variable {y : MethodName} {cc2 : ByteArray} {maxL2 n2 idx d2 : Nat} {As rest : List Value}
/-- a constructor's call -/
def YOI (y : MethodName) (cc : ByteArray) (maxL : Nat) (n : Nat) : Prop := Cond.instanceMethod y ∈ lw_gd ∧ Cond.initialized y.cls ∈ lw_gd ∧ Cond.code y cc maxL none ∈ lw_gd ∧ (y.cls ≠ "java/lang/invoke/MethodHandle" ∧ y.cls ≠ "java/lang/invoke/VarHandle" ∧ (parseMethodDescriptor y.desc).map (fun d => d.parameters.length) = some n) ∧ y.name = "<init>"
theorem x_callI (C : CX p s m args meth c cc nL own ret D dA base) (hX : XT s) (yo : YOI y cc2 maxL2 n2) (ml : Cond.methodLink own idx y ∈ lw_gd) {b : Nat}
    (hM : CTx l D dA base y cc2 maxL2 none d2 mc ms (.ref b :: As) ad N I J R post) (d : decode cc pc = .ok (.invokespecial idx, 3)) (hst : st = As.reverse ++ .ref b :: rest) (hn : As.length = n2) (hW : (rest.map fun v => v.category).sum ≤ 8) (hR : d2 + 1 ≤ Rm.frames ∧ 8 + (maxL2 + 11) + 30 * d2 ≤ Rm.locals) (hf : nc + mc ≤ Rm.cells ∧ ns + ms ≤ Rm.slots)
    (kk : ∀ r ad' N' I' J' R', post r ad' N' I' J' R' → GX p l e Rm s m args below meth c Q D dA base nL ad' N' I' J' R' (nc + mc) (ns + ms) (pc + 3) L (r.toList ++ rest)) : GX p l e Rm s m args below meth c Q D dA base nL ad N I J R nc ns pc L st := fun H locs ls hH hS hl => by
  subst hst
  obtain ⟨y1, y3, y4, y5, y6⟩ := yo
  have hK := C.2.2.2.2.2.1
  have hts := C.2.2.2.2.1
  have cw := cwI (R := Rm) (rm := rmX d2 mc ms) (mc := mc) (ms := ms) (own := own) (index := idx) (y := y) (ws := Cond.code y cc2 maxL2 none :: lw_gd) n2 hts (gd_GI (fun w hw => by
    rcases List.mem_cons.mp hw with rfl | hw
    · exact y4
    · exact hw)) rfl rfl rfl (hts _ y3) (hts _ ml) (hts _ y1) y6 y5 hR
  refine x_run (post := post) (a := (Value.ref b :: As).toArray) hS hl (va_runI (Ts := lw_gd) (nL := nL) (As := As) (rest := rest) ⟨C.1, C.2.1, C.2.2.1, C.2.2.2.1, hts⟩ hM cw ⟨CPx_blind, fun U hU hW2 => ⟨⟨rfl, by rw [hU]; exact Nat.le_trans C.2.2.2.2.2.2.1 hS.1, by rw [hU]; exact hH, va_K.moved hW2.alike hK⟩, hX.warm hW2⟩⟩ rfl hn hl.1 rfl (lv_room hW) d hf) kk
/-- a private constructor of a nest mate -/
theorem x_callIN (C : CX p s m args meth c cc nL own ret D dA base) (hX : XT s) (yo : YOI y cc2 maxL2 n2) {host : String} (ml : va_Nw (.methodLinkNest own idx y host) s) {b : Nat}
    (hM : CTx l D dA base y cc2 maxL2 none d2 mc ms (.ref b :: As) ad N I J R post) (d : decode cc pc = .ok (.invokespecial idx, 3)) (hst : st = As.reverse ++ .ref b :: rest) (hn : As.length = n2) (hW : (rest.map fun v => v.category).sum ≤ 8) (hR : d2 + 1 ≤ Rm.frames ∧ 8 + (maxL2 + 11) + 30 * d2 ≤ Rm.locals) (hf : nc + mc ≤ Rm.cells ∧ ns + ms ≤ Rm.slots)
    (kk : ∀ r ad' N' I' J' R', post r ad' N' I' J' R' → GX p l e Rm s m args below meth c Q D dA base nL ad' N' I' J' R' (nc + mc) (ns + ms) (pc + 3) L (r.toList ++ rest)) : GX p l e Rm s m args below meth c Q D dA base nL ad N I J R nc ns pc L st := fun H locs ls hH hS hl => by
  subst hst
  obtain ⟨y1, y3, y4, y5, y6⟩ := yo
  have hK := C.2.2.2.2.2.1
  have hts := C.2.2.2.2.1
  have cw := va_cnB (R := Rm) (rm := rmX d2 mc ms) (mc := mc) (ms := ms) (own := own) (host := host) (index := idx) (y := y) (ws := Cond.code y cc2 maxL2 none :: lw_gd) n2 hts (gd_GI (fun w hw => by
    rcases List.mem_cons.mp hw with rfl | hw
    · exact y4
    · exact hw)) rfl rfl rfl ml (hts _ y3) y5 hR
  refine x_run (post := post) (a := (Value.ref b :: As).toArray) hS hl (va_runIN (Ts := lw_gd) (nL := nL) (As := As) (rest := rest) ⟨C.1, C.2.1, C.2.2.1, C.2.2.2.1, hts⟩ hM ⟨cw, y6, hts _ y1⟩ ⟨CPx_blind, fun U hU hW2 => ⟨⟨rfl, by rw [hU]; exact Nat.le_trans C.2.2.2.2.2.2.1 hS.1, by rw [hU]; exact hH, va_K.moved hW2.alike hK⟩, hX.warm hW2⟩⟩ rfl hn hl.1 rfl (lv_room hW) d hf) kk
end GXM

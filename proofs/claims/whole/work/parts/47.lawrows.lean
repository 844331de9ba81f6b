/-! rows of the law -/
section GXL
variable {p : Program} {l : Launch} {e : Env} {Rm : Room} {s : State} {m : MethodId} {args : Array Value} {below : List Frame} {meth : Method} {c : Code} {Q : State → Prop} {cc : ByteArray} {own : String} {ret : Option FieldType} {D : va_G} {dA : Nat → ClassId} {base nL : Nat} {ad : Fa} {N N1 : Nat → Nat} {I : Fi} {J : Fj} {R : Fr} {nc ns pc mc ms nc2 ns2 : Nat} {L : List (Option Value)} {st : List Value}
theorem x_wide (h1 : nc ≤ nc2) (h2 : ns ≤ ns2) (k : GX p l e Rm s m args below meth c Q D dA base nL ad N I J R nc2 ns2 pc L st) : GX p l e Rm s m args below meth c Q D dA base nL ad N I J R nc ns pc L st := fun H locs ls hH hS hl => W.widen h1 h2 (k H locs ls hH hS hl)
theorem x_sld (C : CX p s m args meth c cc nL own ret D dA base) {b Ln : Nat} {xs : Nat → Int32} (hX : va_X b Ln xs s s.heap) (hbl : b < s.heap.size) (hbb : s.heap.size ≤ base) {i : Int32} (k : Nat) (ek : i = nI k) (hk : k < Ln) (hL : Ln ≤ 2048) (d : decode cc pc = .ok (.iaload, 1)) (kk : GX p l e Rm s m args below meth c Q D dA base nL ad N I J R nc ns (pc + 1) L (.int (xs k) :: st)) : GX p l e Rm s m args below meth c Q D dA base nL ad N I J R nc ns pc L (.int i :: .ref b :: st) := fun H locs ls hH hS hl => by
  subst ek
  have hc : (nI k).toNatClampNeg = k := nI_clamp (by omega)
  exact va_sld C.1 C.2.1 hX hbl (show ¬ base ≤ b by omega) hS (vp_in_nI hk (by omega)) d (by rw [hc]; exact kk H locs ls hH hS hl)
theorem x_slen (C : CX p s m args meth c cc nL own ret D dA base) {b Ln : Nat} {xs : Nat → Int32} (hX : va_X b Ln xs s s.heap) (hbl : b < s.heap.size) (hbb : s.heap.size ≤ base) (d : decode cc pc = .ok (.arraylength, 1)) (kk : GX p l e Rm s m args below meth c Q D dA base nL ad N I J R nc ns (pc + 1) L (.int (Int32.ofNat Ln) :: st)) : GX p l e Rm s m args below meth c Q D dA base nL ad N I J R nc ns pc L (.ref b :: st) := fun H locs ls hH hS hl =>
  va_slen C.1 C.2.1 hX hbl (show ¬ base ≤ b by omega) hS d (kk H locs ls hH hS hl)
variable {y : MethodName} {cc2 : ByteArray} {maxL2 n2 idx d2 : Nat} {ret2 : Option FieldType} {As rest : List Value} {post : Po}
/-- a virtual call of a method that makes cells -/
theorem x_callVx (C : CX p s m args meth c cc nL own ret D dA base) (hX : XT s) (yo : YOK y cc2 maxL2 ret2 n2) (ml : Cond.methodLink own idx y ∈ lw_gd) {kc i ci nf : Nat} {T : u_T} (hk : kd kc = (0, ci, nf)) (hci : vwCl[ci]? = some (y.cls, T, nf)) (hi : i < N kc)
    (hM : CTx l D dA base y cc2 maxL2 ret2 d2 mc ms (.ref (ad kc i) :: As) ad N I J R post) (d : decode cc pc = .ok (.invokevirtual idx, 3)) (hst : st = As.reverse ++ .ref (ad kc i) :: rest) (hn : As.length = n2) (hW : (rest.map fun v => v.category).sum ≤ 8) (hR : d2 + 1 ≤ Rm.frames ∧ 8 + (maxL2 + 11) + 30 * d2 ≤ Rm.locals) (hf : nc + mc ≤ Rm.cells ∧ ns + ms ≤ Rm.slots)
    (kk : ∀ r ad' N' I' J' R', post r ad' N' I' J' R' → GX p l e Rm s m args below meth c Q D dA base nL ad' N' I' J' R' (nc + mc) (ns + ms) (pc + 3) L (r.toList ++ rest)) : GX p l e Rm s m args below meth c Q D dA base nL ad N I J R nc ns pc L st := fun H locs ls hH hS hl => by
  subst hst
  obtain ⟨y1, y2, y3, y4, y5⟩ := yo
  obtain ⟨cell, q1, q2, q3, -⟩ := hH.obj hi hk
  have hK := C.2.2.2.2.2.1
  have cw : CallW Rm s args own y.cls idx y cc2 maxL2 ret2 (Cond.code y cc2 maxL2 ret2 :: lw_gd) (rmX d2 mc ms) mc ms n2 := cwV n2 C.2.2.2.2.1 (gd_GI (fun w hw => by
    simp only [wsV, List.cons_append, List.nil_append, List.mem_cons] at hw
    rcases hw with rfl | rfl | rfl | rfl | rfl | hw <;> assumption)) rfl rfl rfl ⟨rfl, y5⟩ hR
  refine x_run (post := post) (a := (Value.ref (ad kc i) :: As).toArray) hS hl (va_runV (Ts := lw_gd) (nL := nL) (As := As) (rest := rest) ⟨C.1, C.2.1, C.2.2.1, C.2.2.2.1, C.2.2.2.2.1⟩ hM cw ⟨CPx_blind, ⟨cell, q1, by rw [q3]; rfl, by rw [q2]; exact (hK.1 ci _ hci).2.1⟩, fun U hU hW2 => ⟨⟨rfl, by rw [hU]; exact Nat.le_trans C.2.2.2.2.2.2.1 hS.1, by rw [hU]; exact hH, va_K.moved hW2.alike hK⟩, hX.warm hW2⟩⟩ rfl hn hl.1 rfl (lv_room hW) d hf) kk
theorem x_cVX (C : CX p s m args meth c cc nL own ret D dA base) (hX : XT s) {x : Int32} {Sp : Fa → Fi → Fj → Fr → Prop} (yo : YOK y cc2 maxL2 ret2 n2) (ml : Cond.methodLink own idx y ∈ lw_gd) {kc i ci nf : Nat} {T : u_T} (hk : kd kc = (0, ci, nf)) (hci : vwCl[ci]? = some (y.cls, T, nf)) (hi : i < N kc)
    (hM : CTx l D dA base y cc2 maxL2 ret2 d2 mc ms (.ref (ad kc i) :: As) ad N I J R (fun r ad2 N2 I1 J1 R1 => r = some (.int x) ∧ (∀ c i, i < N c → ad2 c i = ad c i) ∧ N2 = N1 ∧ Sp ad2 I1 J1 R1)) (d : decode cc pc = .ok (.invokevirtual idx, 3)) (hst : st = As.reverse ++ .ref (ad kc i) :: rest) (hn : As.length = n2) (hW : (rest.map fun v => v.category).sum ≤ 8) (hR : d2 + 1 ≤ Rm.frames ∧ 8 + (maxL2 + 11) + 30 * d2 ≤ Rm.locals) (hf : nc + mc ≤ Rm.cells ∧ ns + ms ≤ Rm.slots)
    (kk : ∀ ad2 I1 J1 R1, (∀ c i, i < N c → ad2 c i = ad c i) → Sp ad2 I1 J1 R1 → GX p l e Rm s m args below meth c Q D dA base nL ad2 N1 I1 J1 R1 (nc + mc) (ns + ms) (pc + 3) L (.int x :: rest)) : GX p l e Rm s m args below meth c Q D dA base nL ad N I J R nc ns pc L st :=
  x_callVx C hX yo ml hk hci hi hM d hst hn hW hR hf (fun r a n i j k h => by obtain ⟨rfl, h1, rfl, h2⟩ := h; exact kk a i j k h1 h2)
theorem x_cVS (C : CX p s m args meth c cc nL own ret D dA base) {x : Int32} {Sp : Fi → Fj → Fr → Prop} (yo : YOK y cc2 maxL2 ret2 n2) (ml : Cond.methodLink own idx y ∈ lw_gd) {kc i ci nf : Nat} {T : u_T} (hk : kd kc = (0, ci, nf)) (hci : vwCl[ci]? = some (y.cls, T, nf)) (hi : i < N kc)
    (hM : CT l D dA base y cc2 maxL2 ret2 d2 mc ms (.ref (ad kc i) :: As) ad N I J R (fun r a N2 I1 J1 R1 => r = some (.int x) ∧ a = ad ∧ N2 = N ∧ Sp I1 J1 R1)) (d : decode cc pc = .ok (.invokevirtual idx, 3)) (hst : st = As.reverse ++ .ref (ad kc i) :: rest) (hn : As.length = n2) (hW : (rest.map fun v => v.category).sum ≤ 8) (hR : d2 + 1 ≤ Rm.frames ∧ 8 + (maxL2 + 11) + 30 * d2 ≤ Rm.locals) (hf : nc + mc ≤ Rm.cells ∧ ns + ms ≤ Rm.slots)
    (kk : ∀ I1 J1 R1, Sp I1 J1 R1 → GX p l e Rm s m args below meth c Q D dA base nL ad N I1 J1 R1 (nc + mc) (ns + ms) (pc + 3) L (.int x :: rest)) : GX p l e Rm s m args below meth c Q D dA base nL ad N I J R nc ns pc L st :=
  x_callV C yo ml hk hci hi hM d hst hn hW hR hf (fun r a n i j k h => by obtain ⟨rfl, h0, h1, h2⟩ := h; rw [h0, h1]; exact kk i j k h2)
/-- the law's own value -/
theorem cw_73 : Cond.codeWith yL_value cL_value 4 (some .int) [(0, 8, 11, 13), (0, 8, 14, 15)] ∈ lw_gd := gd_in (by decide +kernel) (by decide +kernel)
theorem st_73 : Cond.static yL_value ∈ lw_gd := gd_in (by decide +kernel) rfl
theorem in_73 : Cond.initialized yL_value.cls ∈ lw_gd := gd_in (by decide +kernel) rfl
theorem x_callL (C : CX p s m args meth c cc nL RL ret D dA base) (hV : XV base s) {v : Value} {I1 : Fi} {J1 : Fj} {R1 : Fr}
    (hM : CTL l D dA base As ad N I J R (po (some v) ad N I1 J1 R1)) (d : decode cc pc = .ok (.invokestatic 73, 3)) (hst : st = As.reverse ++ rest) (hn : As.length = 3) (hW : (rest.map fun v => v.category).sum ≤ 8) (hR : 7 + 1 ≤ Rm.frames ∧ 8 + (4 + 11) + 30 * 7 ≤ Rm.locals) (hf : nc + 1 ≤ Rm.cells ∧ ns + 6 ≤ Rm.slots)
    (kk : GX p l e Rm s m args below meth c Q D dA base nL ad N I1 J1 R1 (nc + 1) (ns + 6) (pc + 3) L (v :: rest)) : GX p l e Rm s m args below meth c Q D dA base nL ad N I J R nc ns pc L st := fun H locs ls hH hS hl => by
  subst hst
  have hK := C.2.2.2.2.2.1
  have cw := vx_cwSW (R := Rm) (rm := rmX 7 1 6) (mc := 1) (ms := 6) (own := RL) (index := 73) (y := yL_value) (bytes := cL_value) (maxL := 4) (ret := some .int) (hh := [(0, 8, 11, 13), (0, 8, 14, 15)]) (ws := Cond.codeWith yL_value cL_value 4 (some .int) [(0, 8, 11, 13), (0, 8, 14, 15)] :: lw_gd) 3 C.2.2.2.2.1 (gd_GI (fun w hw => by
    simp only [va_wsS, List.cons_append, List.nil_append, List.mem_cons] at hw
    rcases hw with rfl | rfl | rfl | rfl | hw
    · exact m_L_73
    · exact st_73
    · exact in_73
    · exact cw_73
    · exact hw)) rfl rfl rfl (by decide +kernel) hR
  refine x_run (post := po (some v) ad N I1 J1 R1) (a := As.toArray) hS hl (vx_runSW (Ts := lw_gd) (nL := nL) (As := As) (rest := rest) ⟨C.1, C.2.1, C.2.2.1, C.2.2.2.1, C.2.2.2.2.1⟩ hM cw ⟨CPv_blind, fun U hU hW2 => ⟨⟨rfl, by rw [hU]; exact Nat.le_trans C.2.2.2.2.2.2.1 hS.1, by rw [hU]; exact hH, va_K.moved hW2.alike hK⟩, hV.at hW2 hU hS⟩⟩ rfl hn hl.1 rfl (lv_room hW) d hf) (fun r a n i j k h => by obtain ⟨rfl, rfl, rfl, rfl, rfl, rfl⟩ := h; exact kk)
end GXL
/-! the law's out is no matter of the relation -/
theorem sim_12 {n ver : Nat} {I : Fi} {J : Fj} {R : Fr} (h : SIM n ver I J R) (v : Int64) : SIM n ver I (up3 J 12 0 0 v) R := by
  obtain ⟨rs, aq, zs, rw, ap, pk, ⟨h1, h2, h3, h4, h5, h6, h7, a1, a2, a3, a4, a5, a6⟩, hP, h4'⟩ := h
  have e : ∀ c b d, ¬ c = 12 → up3 J 12 0 0 v c b d = J c b d := fun c b d hc => up3_c _ _ _ _ _ hc
  refine ⟨rs, aq, zs, rw, ap, pk, ⟨fun k hk => ?_, fun k hk => ?_, h3, h4, h5, ⟨fun k j hk hj => ?_, h6.2⟩, h7, a1, a2, a3, a4, fun c i hc hi q => ?_, fun k hk => ?_⟩, ⟨hP.1, fun q j hq hj => ?_, hP.2.2.1, hP.2.2.2⟩, h4'⟩
  · rw [e _ _ _ (by omega), e _ _ _ (by omega)]; exact h1 k hk
  · rw [e _ _ _ (by omega)]; exact h2 k hk
  · rw [e _ _ _ (by omega)]; exact h6.1 k j hk hj
  · rw [e _ _ _ (by omega)]; exact a5 c i hc hi q
  · rw [e _ _ _ (by omega)]; exact a6 k hk
  · have h0 := hP.2.1 q j hq hj
    exact PE_cong h0 ((h5.1 _ h0.1).2.2.1) (fun t ht => ((h5.1 _ h0.1).2.2.2 t ht).2.2) rfl rfl rfl rfl (fun _ _ => rfl) (fun _ => rfl) (fun _ => rfl) (e _ _ _ (by omega)) rfl rfl rfl rfl h0.2.1 (fun y hy hs => ⟨hs, rfl, e _ _ _ (by omega)⟩)

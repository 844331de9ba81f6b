/-! KeyGraphLaw.value: it catches -/
theorem CPv_blind {D : va_G} {dA : Nat → ClassId} {base : Nat} {as : List Value} {ad : Fa} {N : Nat → Nat} {I : Fi} {J : Fj} {R : Fr} : FrameBlind (fun v U => CP D dA base as ad N I J R v U ∧ XV base U) := fun a U g mk h => ⟨CP_blind a U g mk h.1, h.2.call⟩
section GXC
variable {p : Program} {l : Launch} {e : Env} {Rm : Room} {s : State} {m : MethodId} {args : Array Value} {below : List Frame} {meth : Method} {c : Code} {Q : State → Prop} {cc : ByteArray} {own : String} {ret : Option FieldType} {D : va_G} {dA : Nat → ClassId} {base nL : Nat} {ad : Fa} {N : Nat → Nat} {I : Fi} {J : Fj} {R : Fr} {nc ns pc mc ms : Nat} {L : List (Option Value)} {st : List Value}
variable {y : MethodName} {cc2 : ByteArray} {maxL2 n idx d2 : Nat} {ret2 : Option FieldType} {As rest : List Value} {cls : String}
/-- a call that throws -/
theorem x_callT (C : CX p s m args meth c cc nL own ret D dA base) (hV : XV base s) (yo : YOK y cc2 maxL2 ret2 n) (ml : Cond.methodLink own idx y ∈ lw_gd) {kc i ci nf : Nat} {T : u_T} (hk : kd kc = (0, ci, nf)) (hci : vwCl[ci]? = some (y.cls, T, nf)) (hi : i < N kc)
    (hM : vx_Met l y (Cond.code y cc2 maxL2 ret2 :: lw_gd) (rmX d2 mc ms) (fun v U => CP D dA base (.ref (ad kc i) :: As) ad N I J R v U ∧ XV base U) (fun _ _ _ _ => False) (XCn D dA base ad N I J R cls) mc ms (fun q => base ≤ q)) (d : decode cc pc = .ok (.invokevirtual idx, 3)) (hst : st = As.reverse ++ .ref (ad kc i) :: rest) (hn : As.length = n) (hW : (rest.map fun v => v.category).sum ≤ 8) (hR : d2 + 1 ≤ Rm.frames ∧ 8 + (maxL2 + 11) + 30 * d2 ≤ Rm.locals) (hf : nc + mc ≤ Rm.cells ∧ ns + ms ≤ Rm.slots)
    (kx : ∀ (q : Addr) (ce : Cell) (H1 : Heap) (locs1 : List Loc) (ls : Array Slot), HR D dA base ad N I J R H1 → va_S (fun q => base ≤ q) s.heap H1 locs1 → LVx nL L ls → H1[q]? = some ce → ce.vm = .none → s.vm.findClass cls = some ce.cls → vx_W p l e Rm s m args below meth c H1 locs1 (nc + mc) (ns + ms) Q (F0 m pc ls rest) q) : GX p l e Rm s m args below meth c Q D dA base nL ad N I J R nc ns pc L st := fun H locs ls hH hS hl => by
  subst hst
  obtain ⟨y1, y2, y3, y4, y5⟩ := yo
  obtain ⟨cell, q1, q2, q3, -⟩ := hH.obj hi hk
  have hK := C.2.2.2.2.2.1
  have cw : CallW Rm s args own y.cls idx y cc2 maxL2 ret2 (Cond.code y cc2 maxL2 ret2 :: lw_gd) (rmX d2 mc ms) mc ms n := cwV n C.2.2.2.2.1 (gd_GI (fun w hw => by
    simp only [wsV, List.cons_append, List.nil_append, List.mem_cons] at hw
    rcases hw with rfl | rfl | rfl | rfl | rfl | hw <;> assumption)) rfl rfl rfl ⟨rfl, y5⟩ hR
  have hr := vx_runV (p := p) (e := e) (below := below) (meth := meth) (locs := locs) (cells := nc) (slots := ns) (g := F0 m pc ls (As.reverse ++ .ref (ad kc i) :: rest)) (Ts := lw_gd) (nL := nL) (As := As) (rest := rest) ⟨C.1, C.2.1, C.2.2.1, C.2.2.2.1, C.2.2.2.2.1⟩ hM cw ⟨CPv_blind, ⟨cell, q1, by rw [q3]; rfl, by rw [q2]; exact (hK.1 ci _ hci).2.1⟩, fun U hU hW2 => ⟨⟨rfl, by rw [hU]; exact Nat.le_trans C.2.2.2.2.2.2.1 hS.1, by rw [hU]; exact hH, va_K.moved hW2.alike hK⟩, hV.at hW2 hU hS⟩⟩ rfl hn hl.1 rfl (lv_room hW) d hf
  intro T hT X
  rcases hr T hT X with ⟨v, st₀, t, T', Lc, h0, X', hL, e1, e2, hq, stp⟩ | ⟨q, st₀, t, T', Lc, E, ce, h0, X', hL, e1, e2, ⟨hE, hH', hz, hkk⟩, hce, hcv, hcl, stp⟩
  · exact hq.elim
  · subst hE
    rw [h0] at hz hkk
    obtain ⟨t2, a1, b1⟩ := kx q ce T'.heap (locs ++ Lc) ls (by rw [e1]; exact hH')
      ⟨Nat.le_trans hS.1 (by rw [e1]; exact hz), fun q h1 h2 => by rw [e1, hkk q (Nat.lt_of_lt_of_le h1 hS.1) h2]; exact hS.2.1 q h1 h2, fun q hq => by
        rcases List.mem_append.mp hq with h | h
        · exact hS.2.2 q h
        · exact hL q h⟩ hl (by rw [e1]; exact hce) hcv hcl T' rfl X'
    exact ⟨t2, stp.trans a1, b1⟩
end GXC
def CTL (l : Launch) (D : va_G) (dA : Nat → ClassId) (base : Nat) (as : List Value) (ad : Fa) (N : Nat → Nat) (I : Fi) (J : Fj) (R : Fr) (post : Po) : Prop :=
  Met l yL_value (Cond.codeWith yL_value cL_value 4 (some .int) [(0, 8, 11, 13), (0, 8, 14, 15)] :: lw_gd) (rmX 7 1 6) (fun v U => CP D dA base as ad N I J R v U ∧ XV base U) (CQ D dA base post) 1 6 (fun q => base ≤ q)
theorem cl_13 : Cond.classLink RL 13 "java/lang/IllegalArgumentException" ∈ lw_gd := gd_in (by decide +kernel) rfl
theorem cl_15 : Cond.classLink RL 15 "java/lang/IllegalStateException" ∈ lw_gd := gd_in (by decide +kernel) rfl

set_option maxRecDepth 100000 in
set_option maxHeartbeats 4000000 in
theorem c_L_value_out (l : Launch) (hl : l.stackTraces = false) (D : va_G) (dA : Nat → ClassId) (base n : Nat) (ad : Fa) (I : Fi) (J : Fj) (R : Fr) (hT : ST n R) (hG : KG n I R) (x : Int32) (hx : x < 0 ∨ nI n ≤ x) : CTL l D dA base [.ref (ad 0 0), .int x, .ref (ad 12 0)] ad (Nn n) I J R (po (some (.int 1)) ad (Nn n) I J R) := by
  refine va_MetW (cc := cL_value) (maxL := 4) (ret := some .int) (hh := [(0, 8, 11, 13), (0, 8, 14, 15)]) (by decide +kernel) rfl ?_
  intro p e s m args below meth c s₁ B hml hv
  obtain ⟨⟨rfl, hb, hH, hK⟩, hV⟩ := hv
  have hts := atoms_spec (ws := Cond.codeWith yL_value cL_value 4 (some .int) [(0, 8, 11, 13), (0, 8, 14, 15)] :: lw_gd) B.pre
  have htab : c.exceptionTable.toList = tableOf [(0, 8, 11, 13), (0, 8, 14, 15)] := vx_table (x := yL_value) B (hts _ List.mem_cons_self)
  have C : CX p s m ([.ref (ad 0 0), .int x, .ref (ad 12 0)] : List Value).toArray meth c cL_value 4 RL (some .int) D dA base := ⟨B.exec, B.bytes, hml, findClass_of_methodNamed B.named, fun w h => hts w (List.mem_cons_of_mem _ h), hK, hb, B.returns, B.notSynchronized⟩
  rw [lg_entry_eq]
  suffices hg : GX p l e (rmX 7 1 6) s m ([.ref (ad 0 0), .int x, .ref (ad 12 0)] : List Value).toArray below meth c (MQ below (CQ D dA base (po (some (.int 1)) ad (Nn n) I J R)) ([.ref (ad 0 0), .int x, .ref (ad 12 0)] : List Value).toArray s 1 6 (fun q => base ≤ q)) D dA base 4 ad (Nn n) I J R 0 0 0 [some (.ref (ad 0 0)), some (.int x), some (.ref (ad 12 0)), none] [] from
    hg s.heap [] _ hH va_S.rf (LVx.entry [.ref (ad 0 0), .int x, .ref (ad 12 0)] 1 (Nat.le_of_ble_eq_true rfl))
  refine x_aload_n C dL_value_0 rfl ?_
  refine x_iconst C 0 (by decide) dL_value_1 ?_
  refine x_aload_n C dL_value_2 rfl ?_
  refine x_iload_n C dL_value_3 rfl ?_
  refine x_callT C hV yo_X3_value m_L_7 rfl rfl (by first | assumption | exact Nat.one_pos) (c_X3_value_out l hl D dA base n ad I J R hT hG x hx) dL_value_4 rfl rfl (Nat.le_of_ble_eq_true rfl) ⟨by decide, by decide⟩ ⟨by decide, by decide⟩ (fun q ce H1 locs1 ls hH1 hS1 hl1 hc hcv hcl => ?_)
  refine vx_catch C.2.2.2.1 [] ⟨0, 8, 11, 13⟩ [⟨0, 8, 14, 15⟩] htab (fun z hz => nomatch hz) (by decide +kernel) (by decide) (C.2.2.2.2.1 _ cl_13) (vB_use hV.1 _ (by decide +kernel)) hc hcv hcl ?_
  suffices hg : GX p l e (rmX 7 1 6) s m ([.ref (ad 0 0), .int x, .ref (ad 12 0)] : List Value).toArray below meth c (MQ below (CQ D dA base (po (some (.int 1)) ad (Nn n) I J R)) ([.ref (ad 0 0), .int x, .ref (ad 12 0)] : List Value).toArray s 1 6 (fun q => base ≤ q)) D dA base 4 ad (Nn n) I J R (0 + 1) (0 + 6) 11 [some (.ref (ad 0 0)), some (.int x), some (.ref (ad 12 0)), none] [.ref q] from hg H1 locs1 ls hH1 hS1 hl1
  refine x_astore_n C dL_value_11 (by decide) rfl rfl ?_
  refine x_iconst C 1 (by decide) dL_value_12 ?_
  exact x_iret C (po_i _ _ _ _ _ _) dL_value_13

set_option maxRecDepth 100000 in
set_option maxHeartbeats 4000000 in
theorem c_L_value_bad (l : Launch) (hl : l.stackTraces = false) (D : va_G) (dA : Nat → ClassId) (base n : Nat) (ad : Fa) (I : Fi) (J : Fj) (R : Fr) (hT : ST n R) (hG : KG n I R) (k : Nat) (hk : k < n) (hq : ¬ (sure I k = true ∧ I 4 k 7 = 1)) : CTL l D dA base [.ref (ad 0 0), .int (nI k), .ref (ad 12 0)] ad (Nn n) I J R (po (some (.int 2)) ad (Nn n) I J R) := by
  refine va_MetW (cc := cL_value) (maxL := 4) (ret := some .int) (hh := [(0, 8, 11, 13), (0, 8, 14, 15)]) (by decide +kernel) rfl ?_
  intro p e s m args below meth c s₁ B hml hv
  obtain ⟨⟨rfl, hb, hH, hK⟩, hV⟩ := hv
  have hts := atoms_spec (ws := Cond.codeWith yL_value cL_value 4 (some .int) [(0, 8, 11, 13), (0, 8, 14, 15)] :: lw_gd) B.pre
  have htab : c.exceptionTable.toList = tableOf [(0, 8, 11, 13), (0, 8, 14, 15)] := vx_table (x := yL_value) B (hts _ List.mem_cons_self)
  have C : CX p s m ([.ref (ad 0 0), .int (nI k), .ref (ad 12 0)] : List Value).toArray meth c cL_value 4 RL (some .int) D dA base := ⟨B.exec, B.bytes, hml, findClass_of_methodNamed B.named, fun w h => hts w (List.mem_cons_of_mem _ h), hK, hb, B.returns, B.notSynchronized⟩
  rw [lg_entry_eq]
  suffices hg : GX p l e (rmX 7 1 6) s m ([.ref (ad 0 0), .int (nI k), .ref (ad 12 0)] : List Value).toArray below meth c (MQ below (CQ D dA base (po (some (.int 2)) ad (Nn n) I J R)) ([.ref (ad 0 0), .int (nI k), .ref (ad 12 0)] : List Value).toArray s 1 6 (fun q => base ≤ q)) D dA base 4 ad (Nn n) I J R 0 0 0 [some (.ref (ad 0 0)), some (.int (nI k)), some (.ref (ad 12 0)), none] [] from
    hg s.heap [] _ hH va_S.rf (LVx.entry [.ref (ad 0 0), .int (nI k), .ref (ad 12 0)] 1 (Nat.le_of_ble_eq_true rfl))
  refine x_aload_n C dL_value_0 rfl ?_
  refine x_iconst C 0 (by decide) dL_value_1 ?_
  refine x_aload_n C dL_value_2 rfl ?_
  refine x_iload_n C dL_value_3 rfl ?_
  refine x_callT C hV yo_X3_value m_L_7 rfl rfl (by first | assumption | exact Nat.one_pos) (c_X3_value_bad l hl D dA base n ad I J R hT hG k hk hq) dL_value_4 rfl rfl (Nat.le_of_ble_eq_true rfl) ⟨by decide, by decide⟩ ⟨by decide, by decide⟩ (fun q ce H1 locs1 ls hH1 hS1 hl1 hc hcv hcl => ?_)
  refine vx_catch C.2.2.2.1 [⟨0, 8, 11, 13⟩] ⟨0, 8, 14, 15⟩ [] htab (fun z hz => ?_) (by decide +kernel) (by decide) (C.2.2.2.2.1 _ cl_15) (vB_use hV.1 _ (by decide +kernel)) hc hcv hcl ?_
  · simp only [List.mem_cons, List.not_mem_nil, or_false] at hz
    subst hz
    exact Or.inr ⟨by decide, _, C.2.2.2.2.1 _ cl_13, hV.2.2.2.2.2⟩
  suffices hg : GX p l e (rmX 7 1 6) s m ([.ref (ad 0 0), .int (nI k), .ref (ad 12 0)] : List Value).toArray below meth c (MQ below (CQ D dA base (po (some (.int 2)) ad (Nn n) I J R)) ([.ref (ad 0 0), .int (nI k), .ref (ad 12 0)] : List Value).toArray s 1 6 (fun q => base ≤ q)) D dA base 4 ad (Nn n) I J R (0 + 1) (0 + 6) 14 [some (.ref (ad 0 0)), some (.int (nI k)), some (.ref (ad 12 0)), none] [.ref q] from hg H1 locs1 ls hH1 hS1 hl1
  refine x_astore_n C dL_value_14 (by decide) rfl rfl ?_
  refine x_iconst C 2 (by decide) dL_value_15 ?_
  exact x_iret C (po_i _ _ _ _ _ _) dL_value_16

set_option maxRecDepth 100000 in
set_option maxHeartbeats 4000000 in
theorem c_L_value_ok (l : Launch) (hl : l.stackTraces = false) (D : va_G) (dA : Nat → ClassId) (base n : Nat) (ad : Fa) (I : Fi) (J : Fj) (R : Fr) (hT : ST n R) (hG : KG n I R) (k : Nat) (hk : k < n) (hs : sure I k = true) (h7 : I 4 k 7 = 1) : CTL l D dA base [.ref (ad 0 0), .int (nI k), .ref (ad 12 0)] ad (Nn n) I J R (po (some (.int 0)) ad (Nn n) I (up3 J 12 0 0 (J 4 k 8)) R) := by
  refine va_MetW (cc := cL_value) (maxL := 4) (ret := some .int) (hh := [(0, 8, 11, 13), (0, 8, 14, 15)]) (by decide +kernel) rfl ?_
  intro p e s m args below meth c s₁ B hml hv
  obtain ⟨⟨rfl, hb, hH, hK⟩, hV⟩ := hv
  have hts := atoms_spec (ws := Cond.codeWith yL_value cL_value 4 (some .int) [(0, 8, 11, 13), (0, 8, 14, 15)] :: lw_gd) B.pre
  have htab : c.exceptionTable.toList = tableOf [(0, 8, 11, 13), (0, 8, 14, 15)] := vx_table (x := yL_value) B (hts _ List.mem_cons_self)
  have C : CX p s m ([.ref (ad 0 0), .int (nI k), .ref (ad 12 0)] : List Value).toArray meth c cL_value 4 RL (some .int) D dA base := ⟨B.exec, B.bytes, hml, findClass_of_methodNamed B.named, fun w h => hts w (List.mem_cons_of_mem _ h), hK, hb, B.returns, B.notSynchronized⟩
  rw [lg_entry_eq]
  suffices hg : GX p l e (rmX 7 1 6) s m ([.ref (ad 0 0), .int (nI k), .ref (ad 12 0)] : List Value).toArray below meth c (MQ below (CQ D dA base (po (some (.int 0)) ad (Nn n) I (up3 J 12 0 0 (J 4 k 8)) R)) ([.ref (ad 0 0), .int (nI k), .ref (ad 12 0)] : List Value).toArray s 1 6 (fun q => base ≤ q)) D dA base 4 ad (Nn n) I J R 0 0 0 [some (.ref (ad 0 0)), some (.int (nI k)), some (.ref (ad 12 0)), none] [] from
    hg s.heap [] _ hH va_S.rf (LVx.entry [.ref (ad 0 0), .int (nI k), .ref (ad 12 0)] 1 (Nat.le_of_ble_eq_true rfl))
  refine x_aload_n C dL_value_0 rfl ?_
  refine x_iconst C 0 (by decide) dL_value_1 ?_
  refine x_aload_n C dL_value_2 rfl ?_
  refine x_iload_n C dL_value_3 rfl ?_
  refine x_cV1 C yo_X3_value m_L_7 rfl rfl (by first | assumption | exact Nat.one_pos) (c_X3_value_ok l D dA base n ad I J R hT hG k hk hs h7) dL_value_4 rfl rfl (Nat.le_of_ble_eq_true rfl) ⟨by decide, by decide⟩ ⟨by decide, by decide⟩ ?_
  refine x_lastN C (0) rfl rfl rfl (by first | assumption | exact Nat.one_pos) (by decide) (by decide) dL_value_7 ?_
  refine x_goto C 17 dL_value_8 (by decide) ?_
  refine x_iconst C 0 (by decide) dL_value_17 ?_
  exact x_iret C (po_i _ _ _ _ _ _) dL_value_18

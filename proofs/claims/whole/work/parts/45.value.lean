/-! KeyGraph.value: it throws -/
def vB : List Cond := [.declares (Bundle.initS "java/lang/RuntimeException"), .declares (Bundle.initS "java/lang/Exception"), .declares (Bundle.initS Bundle.tN), .castable "java/lang/IllegalArgumentException" "java/lang/IllegalArgumentException", .castable "java/lang/IllegalStateException" "java/lang/IllegalStateException"]
/-- what a throw rests on beside the tables' good words -/
def XV (base : Nat) (U : State) : Prop := (∀ w ∈ vB, va_Nw w U) ∧ (∃ a, vk_R RX3 123 "there is no such key" a U) ∧ (∃ a, vk_R RX3 130 "the key isn't sure, or has failed" a U) ∧ vx_Zq Bundle.tN "UNASSIGNED_STACK" Bundle.steD (fun q => base ≤ q) U U.heap ∧ vx_Zq Bundle.tN "SUPPRESSED_SENTINEL" Bundle.listD (fun q => base ≤ q) U U.heap ∧ va_Nc "java/lang/IllegalStateException" "java/lang/IllegalArgumentException" U
theorem vB_warm {s U : State} (hW : s.WarmedH U.vm) (h : ∀ w ∈ vB, va_Nw w s) : ∀ w ∈ vB, va_Nw w U := by
  intro w hw
  have h1 := h w hw
  simp only [vB, List.mem_cons, List.not_mem_nil, or_false] at hw
  rcases hw with rfl | rfl | rfl | rfl | rfl
  · exact va_Nw.warmD hW h1
  · exact va_Nw.warmD hW h1
  · exact va_Nw.warmD hW h1
  · exact va_Nw.warmC hW h1
  · exact va_Nw.warmC hW h1
theorem XV.at {base : Nat} {s U : State} {H : Heap} {locs : List Loc} (hW : s.WarmedH U.vm) (hH : U.heap = H) (hS : va_S (fun q => base ≤ q) s.heap H locs) (h : XV base s) : XV base U := by
  obtain ⟨h1, ⟨a1, h2⟩, ⟨a2, h3⟩, h4, h5, h6⟩ := h
  exact ⟨vB_warm hW h1, ⟨a1, vk_R.warm hW h2⟩, ⟨a2, vk_R.warm hW h3⟩, by rw [hH]; exact vx_Zq.moved hW.alike (h4.kept hS.2.1), by rw [hH]; exact vx_Zq.moved hW.alike (h5.kept hS.2.1), va_Nc.moved hW.alike h6⟩
theorem XV.call {base : Nat} {U : State} {g : JFrame} {mk : MethodId} {a : Array Value} (h : XV base U) : XV base (U.calling g mk a) := XV.at (s := U) (U := U.calling g mk a) (H := U.heap) (locs := []) (State.WarmedH.refl U) rfl va_S.rf h
theorem HR.kept {D : va_G} {dA : Nat → ClassId} {base : Nat} {ad : Fa} {N : Nat → Nat} {I : Fi} {J : Fj} {R : Fr} {H H1 : Heap} (h : HR D dA base ad N I J R H) (hq : ∀ q : Nat, q < H.size → H1[q]? = H[q]?) : HR D dA base ad N I J R H1 :=
  ⟨fun c i hi => cellAt_kept (h.1 c i hi) (hq _ (cellAt_lt (h.1 c i hi))), h.2.1, h.2.2⟩
/-- a throw leaves the store as it was -/
def XCn (D : va_G) (dA : Nat → ClassId) (base : Nat) (ad : Fa) (N : Nat → Nat) (I : Fi) (J : Fj) (R : Fr) (cls : String) : String → State → State → Prop := fun E st t => E = cls ∧ HR D dA base ad N I J R t.heap ∧ va_F (fun q => base ≤ q) st t
theorem vg_all {L : List Cond} (h : (L.filter goodWord).all (fun w => lw_tbl.contains w) = true) : ∀ w ∈ L.filter goodWord, w ∈ lw_gd := fun w hw => by
  have h1 := List.all_eq_true.mp h w hw
  exact gd_in (by simpa using h1) (List.mem_filter.mp hw).2
theorem vg_1 : ∀ w ∈ (vx_atS RX3 125 "java/lang/IllegalArgumentException" ["java/lang/RuntimeException", "java/lang/Exception"]).filter goodWord, w ∈ lw_gd := vg_all (by decide +kernel)
theorem vg_2 : ∀ w ∈ (vx_atS RX3 132 "java/lang/IllegalStateException" ["java/lang/RuntimeException", "java/lang/Exception"]).filter goodWord, w ∈ lw_gd := vg_all (by decide +kernel)
theorem vn_1 : ∀ w ∈ (vx_atS RX3 125 "java/lang/IllegalArgumentException" ["java/lang/RuntimeException", "java/lang/Exception"]).filter (fun w => !goodWord w), w ∈ vB := by decide +kernel
theorem vn_2 : ∀ w ∈ (vx_atS RX3 132 "java/lang/IllegalStateException" ["java/lang/RuntimeException", "java/lang/Exception"]).filter (fun w => !goodWord w), w ∈ vB := by decide +kernel
theorem vo_1 : ∀ w ∈ Cond.classLink RX3 121 "java/lang/IllegalArgumentException" :: Cond.initialized "java/lang/IllegalArgumentException" :: vx_atS RX3 125 "java/lang/IllegalArgumentException" ["java/lang/RuntimeException", "java/lang/Exception"], vx_ot w = true := by decide +kernel
theorem vo_2 : ∀ w ∈ Cond.classLink RX3 128 "java/lang/IllegalStateException" :: Cond.initialized "java/lang/IllegalStateException" :: vx_atS RX3 132 "java/lang/IllegalStateException" ["java/lang/RuntimeException", "java/lang/Exception"], vx_ot w = true := by decide +kernel
theorem vB_ot : ∀ w ∈ vB, w.onTables = true := by decide +kernel
theorem vB_use {s : State} {args : Array Value} (h : ∀ w ∈ vB, va_Nw w s) : ∀ w ∈ vB, w.before args s = true := fun w hw => va_Nw.use (vB_ot w hw) (h w hw)
section GXT
variable {p : Program} {l : Launch} {e : Env} {s : State} {m : MethodId} {args : Array Value} {below : List Frame} {meth : Method} {c : Code} {D : va_G} {dA : Nat → ClassId} {base : Nat} {ad : Fa} {N : Nat → Nat} {I : Fi} {J : Fj} {R : Fr} {L : List (Option Value)}

theorem x_throw1 (C : CX p s m args meth c cX3_value 3 RX3 (some .long) D dA base) (hl : l.stackTraces = false) (hV : XV base s) (htab : ∀ x ∈ c.exceptionTable.toList, False) {Qc : Array Value → State → Outcome → State → Prop} : GX p l e (rmX 6 1 6) s m args below meth c (vx_MQ below Qc (XCn D dA base ad N I J R "java/lang/IllegalArgumentException") args s 1 6 (fun q => base ≤ q)) D dA base 3 ad N I J R 0 0 10 L [] := fun H locs ls hH hS hls => by
  obtain ⟨sa, hstr⟩ := hV.2.1
  refine vx_throwS (A := fun q => base ≤ q) (names := ["java/lang/RuntimeException", "java/lang/Exception"]) C.1 C.2.1 hl C.2.2.2.1 (by decide +kernel) (by decide +kernel) (C.2.2.2.2.1 _ (gd_in (by decide +kernel) rfl)) (C.2.2.2.2.1 _ (gd_in (by decide +kernel) rfl)) hstr (vx_hat (fun w hw => C.2.2.2.2.1 w (vg_1 w hw)) vn_1 (vB_use hV.1)) vo_1 hV.2.2.2.1 hV.2.2.2.2.1 hS (hls.1.trans C.2.2.1.symm) dX3_value_10 dX3_value_13 dX3_value_14 dX3_value_16 dX3_value_19 (fun x hx => (htab x hx).elim) (by decide) (by decide) (by decide) (by decide) C.2.2.2.2.2.2.2.2 (fun t ha hz hk => ⟨rfl, hH.kept hk, Nat.le_trans hS.1 hz, fun q h1 h2 => by rw [hk q (Nat.lt_of_lt_of_le h1 hS.1)]; exact hS.2.1 q h1 h2⟩) hS.2.2 (by decide) (by decide)

theorem x_throw2 (C : CX p s m args meth c cX3_value 3 RX3 (some .long) D dA base) (hl : l.stackTraces = false) (hV : XV base s) (htab : ∀ x ∈ c.exceptionTable.toList, False) {Qc : Array Value → State → Outcome → State → Prop} : GX p l e (rmX 6 1 6) s m args below meth c (vx_MQ below Qc (XCn D dA base ad N I J R "java/lang/IllegalStateException") args s 1 6 (fun q => base ≤ q)) D dA base 3 ad N I J R 0 0 36 L [] := fun H locs ls hH hS hls => by
  obtain ⟨sa, hstr⟩ := hV.2.2.1
  refine vx_throwS (A := fun q => base ≤ q) (names := ["java/lang/RuntimeException", "java/lang/Exception"]) C.1 C.2.1 hl C.2.2.2.1 (by decide +kernel) (by decide +kernel) (C.2.2.2.2.1 _ (gd_in (by decide +kernel) rfl)) (C.2.2.2.2.1 _ (gd_in (by decide +kernel) rfl)) hstr (vx_hat (fun w hw => C.2.2.2.2.1 w (vg_2 w hw)) vn_2 (vB_use hV.1)) vo_2 hV.2.2.2.1 hV.2.2.2.2.1 hS (hls.1.trans C.2.2.1.symm) dX3_value_36 dX3_value_39 dX3_value_40 dX3_value_42 dX3_value_45 (fun x hx => (htab x hx).elim) (by decide) (by decide) (by decide) (by decide) C.2.2.2.2.2.2.2.2 (fun t ha hz hk => ⟨rfl, hH.kept hk, Nat.le_trans hS.1 hz, fun q h1 h2 => by rw [hk q (Nat.lt_of_lt_of_le h1 hS.1)]; exact hS.2.1 q h1 h2⟩) hS.2.2 (by decide) (by decide)

end GXT
set_option maxRecDepth 100000 in
set_option maxHeartbeats 4000000 in
theorem c_X3_value_out (l : Launch) (hl : l.stackTraces = false) (D : va_G) (dA : Nat → ClassId) (base n : Nat) (ad : Fa) (I : Fi) (J : Fj) (R : Fr) (hT : ST n R) (hG : KG n I R) (x : Int32) (hx : x < 0 ∨ nI n ≤ x) : vx_Met l yX3_value (Cond.code yX3_value cX3_value 3 (some .long) :: lw_gd) (rmX 6 1 6) (fun v U => CP D dA base [.ref (ad 0 0), .int x] ad (Nn n) I J R v U ∧ XV base U) (fun _ _ _ _ => False) (XCn D dA base ad (Nn n) I J R "java/lang/IllegalArgumentException") 1 6 (fun q => base ≤ q) := by
  refine vx_ofW (cc := cX3_value) (maxL := 3) (ret := some .long) (by decide +kernel) rfl ?_
  intro p e s m args below meth c s₁ B hml htab hv
  obtain ⟨⟨rfl, hb, hH, hK⟩, hV⟩ := hv
  have hts := atoms_spec (ws := Cond.code yX3_value cX3_value 3 (some .long) :: lw_gd) B.pre
  have C : CX p s m ([.ref (ad 0 0), .int x] : List Value).toArray meth c cX3_value 3 RX3 (some .long) D dA base := ⟨B.exec, B.bytes, hml, findClass_of_methodNamed B.named, fun w h => hts w (List.mem_cons_of_mem _ h), hK, hb, B.returns, B.notSynchronized⟩
  rw [lg_entry_eq]
  suffices hg : GX p l e (rmX 6 1 6) s m ([.ref (ad 0 0), .int x] : List Value).toArray below meth c (vx_MQ below (fun _ _ _ _ => False) (XCn D dA base ad (Nn n) I J R "java/lang/IllegalArgumentException") ([.ref (ad 0 0), .int x] : List Value).toArray s 1 6 (fun q => base ≤ q)) D dA base 3 ad (Nn n) I J R 0 0 0 [some (.ref (ad 0 0)), some (.int x), none] [] from
    hg s.heap [] _ hH va_S.rf (LVx.entry [.ref (ad 0 0), .int x] 1 (Nat.le_of_ble_eq_true rfl))
  refine x_aload_n C dX3_value_0 rfl ?_
  refine x_iload_n C dX3_value_1 rfl ?_
  refine x_cV1 C yo_X3_keyAt m_X3_56 rfl rfl (by first | assumption | exact Nat.one_pos) (c_X3_keyAt_out l D dA base n ad I J R hT hG x hx) dX3_value_2 rfl rfl (Nat.le_of_ble_eq_true rfl) ⟨by decide, by decide⟩ ⟨by decide, by decide⟩ ?_
  refine x_astore_nN C dX3_value_5 (by decide) rfl rfl ?_
  refine x_aload_nN C dX3_value_6 rfl ?_
  refine x_ifnonnullN C dX3_value_7 ?_
  exact x_throw1 C hl hV htab

set_option maxRecDepth 100000 in
set_option maxHeartbeats 4000000 in
theorem c_X3_value_bad (l : Launch) (hl : l.stackTraces = false) (D : va_G) (dA : Nat → ClassId) (base n : Nat) (ad : Fa) (I : Fi) (J : Fj) (R : Fr) (hT : ST n R) (hG : KG n I R) (k : Nat) (hk : k < n) (hq : ¬ (sure I k = true ∧ I 4 k 7 = 1)) : vx_Met l yX3_value (Cond.code yX3_value cX3_value 3 (some .long) :: lw_gd) (rmX 6 1 6) (fun v U => CP D dA base [.ref (ad 0 0), .int (nI k)] ad (Nn n) I J R v U ∧ XV base U) (fun _ _ _ _ => False) (XCn D dA base ad (Nn n) I J R "java/lang/IllegalStateException") 1 6 (fun q => base ≤ q) := by
  refine vx_ofW (cc := cX3_value) (maxL := 3) (ret := some .long) (by decide +kernel) rfl ?_
  intro p e s m args below meth c s₁ B hml htab hv
  obtain ⟨⟨rfl, hb, hH, hK⟩, hV⟩ := hv
  have hts := atoms_spec (ws := Cond.code yX3_value cX3_value 3 (some .long) :: lw_gd) B.pre
  have C : CX p s m ([.ref (ad 0 0), .int (nI k)] : List Value).toArray meth c cX3_value 3 RX3 (some .long) D dA base := ⟨B.exec, B.bytes, hml, findClass_of_methodNamed B.named, fun w h => hts w (List.mem_cons_of_mem _ h), hK, hb, B.returns, B.notSynchronized⟩
  rw [lg_entry_eq]
  suffices hg : GX p l e (rmX 6 1 6) s m ([.ref (ad 0 0), .int (nI k)] : List Value).toArray below meth c (vx_MQ below (fun _ _ _ _ => False) (XCn D dA base ad (Nn n) I J R "java/lang/IllegalStateException") ([.ref (ad 0 0), .int (nI k)] : List Value).toArray s 1 6 (fun q => base ≤ q)) D dA base 3 ad (Nn n) I J R 0 0 0 [some (.ref (ad 0 0)), some (.int (nI k)), none] [] from
    hg s.heap [] _ hH va_S.rf (LVx.entry [.ref (ad 0 0), .int (nI k)] 1 (Nat.le_of_ble_eq_true rfl))
  refine x_aload_n C dX3_value_0 rfl ?_
  refine x_iload_n C dX3_value_1 rfl ?_
  refine x_cV1 C yo_X3_keyAt m_X3_56 rfl rfl (by first | assumption | exact Nat.one_pos) (c_X3_keyAt_in l D dA base n ad I J R hT hG k hk) dX3_value_2 rfl rfl (Nat.le_of_ble_eq_true rfl) ⟨by decide, by decide⟩ ⟨by decide, by decide⟩ ?_
  refine x_astore_n C dX3_value_5 (by decide) rfl rfl ?_
  refine x_aload_n C dX3_value_6 rfl ?_
  refine x_ifnonnull C 20 dX3_value_7 (by decide) ?_
  refine x_aload_n C dX3_value_20 rfl ?_
  refine x_aload_n C dX3_value_21 rfl ?_
  refine x_cV1 C yo_X3_isSure m_X3_100 rfl rfl (by first | assumption | exact Nat.one_pos) (c_X3_isSure l D dA base n ad I J R hT k hk) dX3_value_22 rfl rfl (Nat.le_of_ble_eq_true rfl) ⟨by decide, by decide⟩ ⟨by decide, by decide⟩ ?_
  refine x_if_eq C 36 dX3_value_25 (by decide) (fun h25 => ?_) (fun h25 => ?_)
  · skip
    exact x_throw2 C hl hV htab
  · skip
    refine x_aload_n C dX3_value_28 rfl ?_
    refine x_getI C f_X3_35 rfl (by first | assumption | exact Nat.one_pos) dX3_value_29 ?_
    refine x_iconst C 1 (by decide) dX3_value_32 ?_
    refine x_icmp_eq C 46 dX3_value_33 (by decide) (fun h33 => ?_) (fun h33 => ?_)
    · skip
      exact absurd (by simp_all) hq
    · skip
      exact x_throw2 C hl hV htab

set_option maxRecDepth 100000 in
set_option maxHeartbeats 4000000 in
theorem c_X3_value_ok (l : Launch) (D : va_G) (dA : Nat → ClassId) (base n : Nat) (ad : Fa) (I : Fi) (J : Fj) (R : Fr) (hT : ST n R) (hG : KG n I R) (k : Nat) (hk : k < n) (hs : sure I k = true) (h7 : I 4 k 7 = 1) : CT l D dA base yX3_value cX3_value 3 (some .long) 2 0 0 [.ref (ad 0 0), .int (nI k)] ad (Nn n) I J R (po (some (.long (J 4 k 8))) ad (Nn n) I J R) := by
  refine CT.of 1 (L0 := [some (.ref (ad 0 0)), some (.int (nI k)), none]) (by decide +kernel) rfl (Nat.le_of_ble_eq_true rfl) ?_
  intro p e s m args below meth c C
  refine x_aload_n C dX3_value_0 rfl ?_
  refine x_iload_n C dX3_value_1 rfl ?_
  refine x_cV1 C yo_X3_keyAt m_X3_56 rfl rfl (by first | assumption | exact Nat.one_pos) (c_X3_keyAt_in l D dA base n ad I J R hT hG k hk) dX3_value_2 rfl rfl (Nat.le_of_ble_eq_true rfl) ⟨by decide, by decide⟩ ⟨by decide, by decide⟩ ?_
  refine x_astore_n C dX3_value_5 (by decide) rfl rfl ?_
  refine x_aload_n C dX3_value_6 rfl ?_
  refine x_ifnonnull C 20 dX3_value_7 (by decide) ?_
  refine x_aload_n C dX3_value_20 rfl ?_
  refine x_aload_n C dX3_value_21 rfl ?_
  refine x_cV1 C yo_X3_isSure m_X3_100 rfl rfl (by first | assumption | exact Nat.one_pos) (c_X3_isSure l D dA base n ad I J R hT k hk) dX3_value_22 rfl rfl (Nat.le_of_ble_eq_true rfl) ⟨by decide, by decide⟩ ⟨by decide, by decide⟩ ?_
  refine x_if_eq C 36 dX3_value_25 (by decide) (fun h25 => ?_) (fun h25 => ?_)
  · skip
    exact absurd h25 (by simp [hs])
  · skip
    refine x_aload_n C dX3_value_28 rfl ?_
    refine x_getI C f_X3_35 rfl (by first | assumption | exact Nat.one_pos) dX3_value_29 ?_
    refine x_iconst C 1 (by decide) dX3_value_32 ?_
    refine x_icmp_eq C 46 dX3_value_33 (by decide) (fun h33 => ?_) (fun h33 => ?_)
    · skip
      refine x_aload_n C dX3_value_46 rfl ?_
      refine x_getJ C f_X3_38 rfl (by first | assumption | exact Nat.one_pos) dX3_value_47 ?_
      exact x_lret C (po_i _ _ _ _ _ _) dX3_value_50
    · skip
      exact absurd h7 h33

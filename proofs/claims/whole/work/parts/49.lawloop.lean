/-! THE CLAIM OUT OF ONE WALK OF THE LAW'S BODY. Your part is whole_start (and what it stands on); all else here is the same for every law, but numbers. -/
def R_law : String := "KeyGraphLaw"
def lw_P (b : Addr) (xs : List Int32) (args : Array Value) (s : State) : Prop := args = #[.ref b] ∧ s.IntsAt b xs ∧ xs.length ≤ 2048 ∧ (Jvm.Cond.and given_1 narrow_1).before args s = true
def lw_Q (_ : Array Value) (s : State) (o : Outcome) (t : State) : Prop := o = .returned (some (.int 1)) ∧ Framed s o t [] 601024 7293034
def lw_Z (below : List Frame) (a : Array Value) (s : State) : State → Prop := fun t => ∃ o, t.status = .running ∧ Ended t below o ∧ lw_Q a s o t
/-- the law's own end, with 1 on the stack, nothing written that was there before, its room as the claim has it -/
theorem lw_ret {p : Program} {l : Launch} {e : Env} {s : State} {m : MethodId} {below : List Frame} {meth : Method} {c : Code} {b : Nat} (hx : p.tables.exec = Jvm.exec) (hb : c.code = code) (hr : meth.sig.returnType = ret) (hlocks : meth.locks = false) {pc : Nat} {H : Heap} {ls : Array Slot} (hdg : decode code pc = .ok (.ireturn, 1)) : W p l e room_1 s m #[Value.ref b] below meth c H [] 601024 7293034 (lw_Z below #[Value.ref b] s) (F0 m pc ls [.int 1]) := by
  intro T hT X
  obtain ⟨fs, hret, hrun, hended, hW, hframe⟩ := X.leave (v := some (.int 1)) (hlocks := hlocks) (fun h => by rw [hr] at h; cases h)
  have hmeth' : T.vm.method? m = some meth := X.method'
  refine ⟨T.setFrames fs, ?_, .returned (some (.int 1)), hrun, hended, rfl, ⟨_, rfl⟩, hW, hframe⟩
  jvm_step X.here [X.here.top, hx, hb, hdg, hmeth', hr, ret, narrow_b1]
  (try refine ⟨rfl, ?_⟩); (try refine ⟨rfl, ?_⟩)
  first | (intro acts; rw [hret _ acts rfl rfl rfl]) | rw [hret _ _ rfl rfl rfl]
  exact Steps.refl _
/-- what holds at the law's entry: the machine, the code, the tables' words (any of lw_tbl by 'hts w (by decide +kernel)'), the script of L ints xs at the cell b, what the Statement gives of the start (any of its parts by flat_of_before) -/
def lw_At (p : Program) (s : State) (m : MethodId) (meth : Method) (c : Code) (b L : Nat) (xs : Nat → Int32) : Prop :=
  p.tables.exec = Jvm.exec ∧ c.code = code ∧ meth.sig.returnType = ret ∧ c.maxLocals = 8 ∧ s.vm.findClass R_law = some m.cls ∧ (∀ w ∈ lw_tbl, w.before #[Value.ref b] s = true) ∧ va_X b L xs s s.heap ∧ b < s.heap.size ∧ meth.locks = false ∧ (Jvm.Cond.and given_1 narrow_1).before #[Value.ref b] s = true
/-! the law's loop -/
theorem lw_exit {p : Program} {l : Launch} {e : Env} {s : State} {m : MethodId} {below : List Frame} {meth : Method} {c : Code} {D : va_G} {dA : Nat → ClassId} {base b : Nat} {ad : Fa} {N : Nat → Nat} {I : Fi} {J : Fj} {R : Fr} {nc ns : Nat} {L : List (Option Value)} (C : CX p s m #[Value.ref b] meth c cL_law 8 RL ret D dA base) (hbb : s.heap.size ≤ base) (hnc : nc ≤ 601024) (hns : ns ≤ 7293034) : GX p l e room_1 s m #[Value.ref b] below meth c (lw_Z below #[Value.ref b] s) D dA base 8 ad N I J R nc ns 726 L [] := by
  refine x_iconst C 1 (by decide) dL_law_726 ?_
  exact fun H locs ls hH hS hl => va_forget (fun q hq => Nat.le_trans hbb (hS.2.2 q hq)) (W.widen hnc hns (lw_ret C.1 C.2.1 C.2.2.2.2.2.2.2.1 C.2.2.2.2.2.2.2.2 dL_law_727))
theorem i32_sub4 {n : Nat} (h : n ≤ 4096) : (Int32.ofNat n - 4).toInt = (n : Int) - 4 := by
  show (nI n - nI 4).toInt = _
  rw [Int32.toInt_sub, nI_toInt (by omega), nI_toInt (by omega)]
  exact bmod32 _ (by omega) (by omega)
section LH
variable {p : Program} {l : Launch} {e : Env} {s : State} {m : MethodId} {args : Array Value} {below : List Frame} {meth : Method} {c : Code} {Q : State → Prop} {rt : Option FieldType} {D : va_G} {dA : Nat → ClassId} {base b Ln n ver t nc ns : Nat} {xs : Nat → Int32} {ad : Fa} {I : Fi} {J : Fj} {R : Fr}
theorem lw_head (C : CX p s m args meth c cL_law 8 RL rt D dA base) (hx : va_X b Ln xs s s.heap) (hbl : b < s.heap.size) (hbb : s.heap.size ≤ base) (hL : Ln ≤ 2048) (ht : t ≤ 513) (k1 : ¬ 4 * t + 4 ≤ Ln → GX p l e room_1 s m args below meth c Q D dA base 8 ad (Nn n) I J R nc ns 726 (Lw b ad t) []) (k2 : 4 * t + 4 ≤ Ln → GX p l e room_1 s m args below meth c Q D dA base 8 ad (Nn n) I J R nc ns 32 (Lw b ad t) []) : GX p l e room_1 s m args below meth c Q D dA base 8 ad (Nn n) I J R nc ns 23 (Lw b ad t) [] := by
  refine x_iload C dL_law_23 rfl ?_
  refine x_aload_n C dL_law_25 rfl ?_
  refine x_slen C hx hbl hbb dL_law_26 ?_
  refine x_iconst C 4 (by decide) dL_law_27 ?_
  refine x_isub C dL_law_28 ?_
  refine x_icmp_gt C 726 dL_law_29 (by decide) (fun h => k1 ?_) (fun h => k2 ?_)
  · rw [Int32.lt_iff_toInt_lt, i32_sub4 (by omega), nI_toInt (by omega)] at h; omega
  · rw [Int32.lt_iff_toInt_lt, i32_sub4 (by omega), nI_toInt (by omega)] at h; omega
theorem lw_body (C : CX p s m args meth c cL_law 8 RL rt D dA base) (hX : XT s) (hV : XV base s) (hl : l.stackTraces = false) (hx : va_X b Ln xs s s.heap) (hbl : b < s.heap.size) (hbb : s.heap.size ≤ base) (hL : Ln ≤ 2048) (ht : 4 * t + 4 ≤ Ln) (hnc : nc + 5 ≤ 601024) (hns : ns + 47 ≤ 7293034) (hS : SIM n ver I J R) (hv : ver < 1000) (kk : ∀ (n2 ver2 : Nat) (ad2 : Fa) (I2 : Fi) (J2 : Fj) (R2 : Fr), SIM n2 ver2 I2 J2 R2 → ver2 ≤ ver + 1 → GX p l e room_1 s m args below meth c Q D dA base 8 ad2 (Nn n2) I2 J2 R2 (nc + 5) (ns + 47) 720 (Lw b ad2 t) []) : GX p l e room_1 s m args below meth c Q D dA base 8 ad (Nn n) I J R nc ns 32 (Lw b ad t) [] := by
  refine x_aload_n C dL_law_32 rfl ?_
  refine x_iload C dL_law_33 rfl ?_
  refine x_sld C hx hbl hbb (4 * t) rfl (by omega) hL dL_law_35 ?_
  refine x_bipush C 31 (by decide) dL_law_36 ?_
  refine x_iand C dL_law_38 ?_
  generalize xs (4 * t) &&& 31 = g
  rcases (show g.toInt < 0 ∨ 17 < g.toInt ∨ g.toInt = 0 ∨ g.toInt = 1 ∨ g.toInt = 2 ∨ g.toInt = 3 ∨ g.toInt = 4 ∨ g.toInt = 5 ∨ g.toInt = 6 ∨ g.toInt = 7 ∨ g.toInt = 8 ∨ g.toInt = 9 ∨ g.toInt = 10 ∨ g.toInt = 11 ∨ g.toInt = 12 ∨ g.toInt = 13 ∨ g.toInt = 14 ∨ g.toInt = 15 ∨ g.toInt = 16 ∨ g.toInt = 17 by omega) with h | h | h | h | h | h | h | h | h | h | h | h | h | h | h | h | h | h | h | h
  · exact x_tableOut C 720 dL_law_39 (Or.inl h) (by decide) (x_widen (by omega) (by omega) (kk n ver ad I J R hS (by omega)))
  · exact x_tableOut C 720 dL_law_39 (Or.inr h) (by decide) (x_widen (by omega) (by omega) (kk n ver ad I J R hS (by omega)))
  · exact x_tableIn C 124 dL_law_39 (by omega) (by omega) (by rw [h]; rfl) (by decide) (lw_c0 C hX hV hl hx hbl hbb hL ht hnc hns hS hv kk)
  · exact x_tableIn C 181 dL_law_39 (by omega) (by omega) (by rw [h]; rfl) (by decide) (lw_c1 C hX hV hl hx hbl hbb hL ht hnc hns hS hv kk)
  · exact x_tableIn C 206 dL_law_39 (by omega) (by omega) (by rw [h]; rfl) (by decide) (lw_c2 C hX hV hl hx hbl hbb hL ht hnc hns hS hv kk)
  · exact x_tableIn C 243 dL_law_39 (by omega) (by omega) (by rw [h]; rfl) (by decide) (lw_c3 C hX hV hl hx hbl hbb hL ht hnc hns hS hv kk)
  · exact x_tableIn C 268 dL_law_39 (by omega) (by omega) (by rw [h]; rfl) (by decide) (lw_c4 C hX hV hl hx hbl hbb hL ht hnc hns hS hv kk)
  · exact x_tableIn C 337 dL_law_39 (by omega) (by omega) (by rw [h]; rfl) (by decide) (lw_c5 C hX hV hl hx hbl hbb hL ht hnc hns hS hv kk)
  · exact x_tableIn C 390 dL_law_39 (by omega) (by omega) (by rw [h]; rfl) (by decide) (lw_c6 C hX hV hl hx hbl hbb hL ht hnc hns hS hv kk)
  · exact x_tableIn C 427 dL_law_39 (by omega) (by omega) (by rw [h]; rfl) (by decide) (lw_c7 C hX hV hl hx hbl hbb hL ht hnc hns hS hv kk)
  · exact x_tableIn C 452 dL_law_39 (by omega) (by omega) (by rw [h]; rfl) (by decide) (lw_c8 C hX hV hl hx hbl hbb hL ht hnc hns hS hv kk)
  · exact x_tableIn C 465 dL_law_39 (by omega) (by omega) (by rw [h]; rfl) (by decide) (lw_c9 C hX hV hl hx hbl hbb hL ht hnc hns hS hv kk)
  · exact x_tableIn C 490 dL_law_39 (by omega) (by omega) (by rw [h]; rfl) (by decide) (lw_c10 C hX hV hl hx hbl hbb hL ht hnc hns hS hv kk)
  · exact x_tableIn C 515 dL_law_39 (by omega) (by omega) (by rw [h]; rfl) (by decide) (lw_c11 C hX hV hl hx hbl hbb hL ht hnc hns hS hv kk)
  · exact x_tableIn C 570 dL_law_39 (by omega) (by omega) (by rw [h]; rfl) (by decide) (lw_c12 C hX hV hl hx hbl hbb hL ht hnc hns hS hv kk)
  · exact x_tableIn C 595 dL_law_39 (by omega) (by omega) (by rw [h]; rfl) (by decide) (lw_c13 C hX hV hl hx hbl hbb hL ht hnc hns hS hv kk)
  · exact x_tableIn C 620 dL_law_39 (by omega) (by omega) (by rw [h]; rfl) (by decide) (lw_c14 C hX hV hl hx hbl hbb hL ht hnc hns hS hv kk)
  · exact x_tableIn C 645 dL_law_39 (by omega) (by omega) (by rw [h]; rfl) (by decide) (lw_c15 C hX hV hl hx hbl hbb hL ht hnc hns hS hv kk)
  · exact x_tableIn C 682 dL_law_39 (by omega) (by omega) (by rw [h]; rfl) (by decide) (lw_c16 C hX hV hl hx hbl hbb hL ht hnc hns hS hv kk)
  · exact x_tableIn C 707 dL_law_39 (by omega) (by omega) (by rw [h]; rfl) (by decide) (lw_c17 C hX hV hl hx hbl hbb hL ht hnc hns hS hv kk)
theorem lw_tail (C : CX p s m args meth c cL_law 8 RL rt D dA base) (k : GX p l e room_1 s m args below meth c Q D dA base 8 ad (Nn n) I J R nc ns 23 (Lw b ad (t + 1)) []) : GX p l e room_1 s m args below meth c Q D dA base 8 ad (Nn n) I J R nc ns 720 (Lw b ad t) [] := by
  refine x_iinc C (nI (4 * (t + 1))) dL_law_720 rfl (by rw [show Int32.ofInt 4 = (4 : Int32) from rfl, ix4]; rfl) (by decide) rfl rfl ?_
  refine x_goto C 23 dL_law_723 (by decide) ?_
  exact k
end LH
theorem lw_loop {p : Program} {l : Launch} {e : Env} {s : State} {m : MethodId} {below : List Frame} {meth : Method} {c : Code} {D : va_G} {dA : Nat → ClassId} {base b Ln : Nat} {xs : Nat → Int32} (C : CX p s m #[Value.ref b] meth c cL_law 8 RL ret D dA base) (hX : XT s) (hV : XV base s) (hl : l.stackTraces = false) (hx : va_X b Ln xs s s.heap) (hbl : b < s.heap.size) (hbb : s.heap.size ≤ base) (hL : Ln ≤ 2048) : ∀ (f t n ver : Nat) (ad : Fa) (I : Fi) (J : Fj) (R : Fr), t + f = 513 → SIM n ver I J R → ver ≤ t → GX p l e room_1 s m #[Value.ref b] below meth c (lw_Z below #[Value.ref b] s) D dA base 8 ad (Nn n) I J R (37 + 5 * t) (3732 + 47 * t) 23 (Lw b ad t) [] := by
  intro f
  induction f with
  | zero =>
    intro t n ver ad I J R hf hS hv
    exact lw_head C hx hbl hbb hL (by omega) (fun _ => lw_exit C hbb (by omega) (by omega)) (fun h => absurd h (by omega))
  | succ f ih =>
    intro t n ver ad I J R hf hS hv
    refine lw_head C hx hbl hbb hL (by omega) (fun _ => lw_exit C hbb (by omega) (by omega)) (fun h => ?_)
    refine lw_body C hX hV hl hx hbl hbb hL h (by omega) (by omega) hS (by omega) (fun n2 ver2 ad2 I2 J2 R2 hS2 hv2 => ?_)
    exact lw_tail C (x_widen (by omega) (by omega) (ih (t + 1) n2 ver2 ad2 I2 J2 R2 (by omega) hS2 (by omega)))

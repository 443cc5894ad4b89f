abbrev vwCl : List vw_C := [(RJ0, TJ0, 2), (RJ6, TJ6, 1), (RJ11, TJ11, 1), (RJx00060, TJx00060, 6), (RJx35411, TJx35411, 4), (RJx4a65c, TJx4a65c, 3), (RX0, TX0, 5), (RX1, TX1, 6), (RX2, TX2, 5), (RX3, TX3, 2), (RX4, TX4, 4), (RX5, TX5, 5), (RX6, TX6, 6), (RX7, TX7, 14), (RX8, TX8, 2), (RX9, TX9, 4), (RX10, TX10, 4), (RX11, TX11, 3), (RX12, TX12, 3), (RX13, TX13, 4), (RX14, TX14, 14), (RX15, TX15, 2)]
/-! the facts of the launch that the walks use, and a method's start and end in one word each. E 0: ArrayList's empty row; E 1: the class object of [Object; E 2: the cache of small Integers; E 3 and on: the texts of the exceptions; E (100 + k): the k-th small Integer -/
abbrev xI_size : MethodName := ⟨"java/util/List", "size", "()I"⟩
abbrev xI_isEmpty : MethodName := ⟨"java/util/List", "isEmpty", "()Z"⟩
abbrev xI_iterator : MethodName := ⟨"java/util/List", "iterator", "()Ljava/util/Iterator;"⟩
abbrev xI_add : MethodName := ⟨"java/util/List", "add", "(Ljava/lang/Object;)Z"⟩
abbrev xI_addAll : MethodName := ⟨"java/util/List", "addAll", "(Ljava/util/Collection;)Z"⟩
abbrev xI_toArray : MethodName := ⟨"java/util/Collection", "toArray", "()[Ljava/lang/Object;"⟩
abbrev xI_hasNext : MethodName := ⟨"java/util/Iterator", "hasNext", "()Z"⟩
def ev_F (U : State) : Prop := va_Fw RJx4a65c xI_size yJx4a65c_size_8abf5 U ∧ va_Fw RJx4a65c xI_isEmpty yJx4a65c_isEmpty_aae02 U ∧ va_Fw RJx4a65c xI_iterator yJx4a65c_iterator_32c93 U ∧ va_Fw RJx4a65c xI_add yJx4a65c_add_9ea2d U ∧ va_Fw RJx4a65c xI_addAll yJx4a65c_addAll_f0b43 U ∧ va_Fw RJx4a65c xI_toArray yJx4a65c_toArray_d5877 U ∧ va_Fw RJx35411 xI_hasNext yJx35411_hasNext_aae02 U
def ev_S (E : Nat → Nat) (U : State) : Prop := vk_R RX8 279 "no such numbe\x72" (E 3) U ∧ vk_R RX8 282 "out of range" (E 4) U ∧ vk_R RX8 85 "no such kind of device" (E 5) U ∧ vk_R RX8 149 "no such kind of command" (E 6) U ∧ vk_R RX8 241 "nobody came" (E 7) U ∧ vk_R RX8 247 "there are no rooms" (E 8) U
abbrev xAE : String := "java/lang/ArithmeticException"
abbrev xIA : String := "java/lang/IllegalArgumentException"
abbrev xIS : String := "java/lang/IllegalStateException"
abbrev xIX : String := "java/lang/IndexOutOfBoundsException"
abbrev xUO : String := "java/lang/UnsupportedOperationException"
def ev_C (U : State) : Prop := va_Nw (.castable xAE xAE) U ∧ va_Nw (.castable xIA xIA) U ∧ va_Nw (.castable xIX xIX) U ∧ va_Nc xIX xIA U ∧ va_Nc xAE xIA U ∧ va_Nc xIA xIX U ∧ va_Nw (.castable "java/lang/Integer" "java/lang/Object") U ∧ va_Nw (.castable RX13 "java/lang/Object") U ∧ va_Nw (.declares (Bundle.initS "java/lang/RuntimeException")) U ∧ va_Nw (.declares (Bundle.initS "java/lang/Exception")) U ∧ va_Nw (.declares (Bundle.initS Bundle.tN)) U
def ev_M (E : Nat → Nat) (U : State) : Prop := va_Mi "[Ljava/lang/Object;" (E 1) U ∧ va_Dc U ∧ va_AO "java/lang/Object" U
def ev_N (U : State) : Prop := va_Nw (.fieldLinkNest RJx35411 28 "java/util/ArrayList" "size" "I" "java/util/ArrayList") U ∧ va_Nw (.methodLinkNest RX7 11 yX5_init "Orbitdock") U ∧ va_Nw (.methodLinkNest RX7 20 yX4_init "Orbitdock") U ∧ va_Nw (.methodLinkNest RX7 27 yX2_init "Orbitdock") U ∧ va_Nw (.methodLinkNest RX7 34 yX1_init "Orbitdock") U ∧ va_Nw (.methodLinkNest RX7 41 yX0_init "Orbitdock") U ∧ va_Nw (.methodLinkNest RX7 48 yX6_init "Orbitdock") U ∧ va_Nw (.methodLinkNest RX15 9 yX14_init "OrbitdockModel") U
def ev (E : Nat → Nat) (U : State) : Prop := ev_F U ∧ ev_S E U ∧ ev_C U ∧ ev_M E U ∧ ev_N U
theorem ev_N.warm {s U : State} (hW : s.WarmedH U.vm) (h : ev_N s) : ev_N U := by
  obtain ⟨n1, n2, n3, n4, n5, n6, n7, n8⟩ := h
  exact ⟨va_Nw.warmF hW n1, va_Nw.warmM hW n2, va_Nw.warmM hW n3, va_Nw.warmM hW n4, va_Nw.warmM hW n5, va_Nw.warmM hW n6, va_Nw.warmM hW n7, va_Nw.warmM hW n8⟩
theorem ev_N.same {u U : State} (hv : u.vm = U.vm) (h : ev_N u) : ev_N U := by
  obtain ⟨n1, n2, n3, n4, n5, n6, n7, n8⟩ := h
  exact ⟨va_Nw.same rfl hv n1, va_Nw.same rfl hv n2, va_Nw.same rfl hv n3, va_Nw.same rfl hv n4, va_Nw.same rfl hv n5, va_Nw.same rfl hv n6, va_Nw.same rfl hv n7, va_Nw.same rfl hv n8⟩
theorem ev_F.moved {u U : State} (hv : u.vm.Alike U.vm) (h : ev_F u) : ev_F U := by
  obtain ⟨h1, h2, h3, h4, h5, h6, h7⟩ := h
  exact ⟨va_Fw.moved (by decide +kernel) hv h1, va_Fw.moved (by decide +kernel) hv h2, va_Fw.moved (by decide +kernel) hv h3, va_Fw.moved (by decide +kernel) hv h4, va_Fw.moved (by decide +kernel) hv h5, va_Fw.moved (by decide +kernel) hv h6, va_Fw.moved (by decide +kernel) hv h7⟩
theorem ev_M.moved {E : Nat → Nat} {u U : State} (hv : u.vm.Alike U.vm) (h : ev_M E u) : ev_M E U := ⟨va_Mi.moved hv h.1, va_Dc.moved hv h.2.1, va_AO.moved hv h.2.2⟩
theorem ev.warm {E : Nat → Nat} {s U : State} (hW : s.WarmedH U.vm) (h : ev E s) : ev E U := by
  obtain ⟨hf, ⟨s1, s2, s3, s4, s5, s6⟩, ⟨c1, c2, c3, c4, c5, c6, c7, c8, c9, c10, c11⟩, hm, hn⟩ := h
  exact ⟨hf.moved hW.alike, ⟨vk_R.warm hW s1, vk_R.warm hW s2, vk_R.warm hW s3, vk_R.warm hW s4, vk_R.warm hW s5, vk_R.warm hW s6⟩, ⟨va_Nw.warmC hW c1, va_Nw.warmC hW c2, va_Nw.warmC hW c3, va_Nc.moved hW.alike c4, va_Nc.moved hW.alike c5, va_Nc.moved hW.alike c6, va_Nw.warmC hW c7, va_Nw.warmC hW c8, va_Nw.warmD hW c9, va_Nw.warmD hW c10, va_Nw.warmD hW c11⟩, hm.moved hW.alike, hn.warm hW⟩
theorem ev.same {E : Nat → Nat} {u U : State} (hv : u.vm = U.vm) (h : ev E u) : ev E U := by
  have ha : u.vm.Alike U.vm := by rw [← hv]; exact Vm.Alike.refl _
  obtain ⟨hf, ⟨s1, s2, s3, s4, s5, s6⟩, ⟨c1, c2, c3, c4, c5, c6, c7, c8, c9, c10, c11⟩, hm, hn⟩ := h
  exact ⟨hf.moved ha, ⟨vk_R.same hv.symm s1, vk_R.same hv.symm s2, vk_R.same hv.symm s3, vk_R.same hv.symm s4, vk_R.same hv.symm s5, vk_R.same hv.symm s6⟩, ⟨va_Nw.same rfl hv c1, va_Nw.same rfl hv c2, va_Nw.same rfl hv c3, va_Nc.moved ha c4, va_Nc.moved ha c5, va_Nc.moved ha c6, va_Nw.same rfl hv c7, va_Nw.same rfl hv c8, va_Nw.same rfl hv c9, va_Nw.same rfl hv c10, va_Nw.same rfl hv c11⟩, hm.moved ha, hn.same hv⟩
def es_A (E : Nat → Nat) (A : Nat → Prop) (U : State) (H : Heap) : Prop := va_Z "java/util/ArrayList" "DEFAULTCAPACITY_EMPTY_ELEMENTDATA" "[Ljava/lang/Object;" (.ref (E 0)) A U H ∧ va_T (.object "java/lang/Object") (E 0) 0 (fun _ => .null) A U H ∧ va_O "[Ljava/lang/Object;" (E 0) A U H
def es_T (A : Nat → Prop) (U : State) (H : Heap) : Prop := vx_Zq Bundle.tN "UNASSIGNED_STACK" Bundle.steD A U H ∧ vx_Zq Bundle.tN "SUPPRESSED_SENTINEL" Bundle.listD A U H
def es_I (E : Nat → Nat) (A : Nat → Prop) (U : State) (H : Heap) : Prop := va_Z "java/lang/Integer$IntegerCache" "high" "I" (.int 127) A U H ∧ va_Z "java/lang/Integer$IntegerCache" "cache" "[Ljava/lang/Integer;" (.ref (E 2)) A U H ∧ va_T (.object "java/lang/Integer") (E 2) 256 (fun k => .ref (E (100 + k))) A U H ∧ vb_C (fun k => E (100 + k)) A U H
def es (E : Nat → Nat) (A : Nat → Prop) (U : State) (H : Heap) : Prop := es_A E A U H ∧ es_T A U H ∧ es_I E A U H
theorem es.moved {E : Nat → Nat} {A : Nat → Prop} {u U : State} {H : Heap} (hv : u.vm.Alike U.vm) (h : es E A u H) : es E A U H := by
  obtain ⟨⟨a1, a2, a3⟩, ⟨t1, t2⟩, i1, i2, i3, i4⟩ := h
  exact ⟨⟨va_Z.moved hv a1, va_T.moved hv a2, va_O.moved hv a3⟩, ⟨vx_Zq.moved hv t1, vx_Zq.moved hv t2⟩, va_Z.moved hv i1, va_Z.moved hv i2, va_T.moved hv i3, vb_C.moved hv i4⟩
theorem es.kept {E : Nat → Nat} {A : Nat → Prop} {U : State} {H H1 : Heap} (h : es E A U H) (hq : ∀ a : Nat, a < H.size → ¬ A a → H1[a]? = H[a]?) : es E A U H1 := by
  obtain ⟨⟨a1, a2, a3⟩, ⟨t1, t2⟩, i1, i2, i3, i4⟩ := h
  exact ⟨⟨va_Z.kept a1 hq, va_T.kept a2 hq, va_O.kept a3 hq⟩, ⟨vx_Zq.kept t1 hq, vx_Zq.kept t2 hq⟩, va_Z.kept i1 hq, va_Z.kept i2 hq, va_T.kept i3 hq, vb_C.kept i4 hq⟩
theorem es.narrow {E : Nat → Nat} {A B : Nat → Prop} {U : State} {H : Heap} (h : es E A U H) (hAB : ∀ q, B q → A q) : es E B U H := by
  obtain ⟨⟨a1, a2, a3⟩, ⟨t1, t2⟩, i1, i2, i3, i4⟩ := h
  exact ⟨⟨va_Z.narrow a1 hAB, va_T.narrow a2 hAB, va_O.narrow a3 hAB⟩, ⟨vx_Zq.narrow t1 hAB, vx_Zq.narrow t2 hAB⟩, va_Z.narrow i1 hAB, va_Z.narrow i2 hAB, va_T.narrow i3 hAB, vb_C.narrow i4 hAB⟩
/-- a method's start: its world, and the launch's facts -/
def pre (dC : Nat → ClassId) (dI : Nat → Nat → Nat) (E : Nat → Nat) (ws : va_W) (tys : List (ClassId × FieldType)) (sz : Nat) (U : State) : Prop := U.heap.size = sz ∧ va_P (dC, dI) vwCl ws U.heap ∧ va_K (dC, dI) vwCl tys U ∧ va_D (fun _ => True) ws ∧ ev E U ∧ es E (va_A ws sz) U U.heap
/-- the world behind a method -/
def pst (dC : Nat → ClassId) (dI : Nat → Nat → Nat) (A : Nat → Prop) (ws : va_W) (tys : List (ClassId × FieldType)) (t : State) : Prop := va_P (dC, dI) vwCl ws t.heap ∧ va_K (dC, dI) vwCl tys t ∧ va_D A ws
theorem pre_blind {dC : Nat → ClassId} {dI : Nat → Nat → Nat} {E : Nat → Nat} {av : List Value} {ws : va_W} {tys : List (ClassId × FieldType)} {sz : Nat} : FrameBlind (va_Pc av (pre dC dI E ws tys sz)) := by
  intro a U g mk q
  obtain ⟨q0, q1, qP, qK, qD, qE, qZ⟩ := q
  exact ⟨q0, q1, qP, va_K.moved (u := U) (U := U.calling g mk a) (Vm.Alike.refl U.vm) qK, qD, ev.same (u := U) (U := U.calling g mk a) rfl qE, es.moved (u := U) (U := U.calling g mk a) (Vm.Alike.refl U.vm) qZ⟩
theorem pre_call {s : State} {H0 H : Heap} {locs : List Loc} {A : Nat → Prop} {dC : Nat → ClassId} {dI : Nat → Nat → Nat} {E : Nat → Nat} {av : List Value} {wc : va_W} {tc : List (ClassId × FieldType)} (hPc : va_P (dC, dI) vwCl wc H) (hDc : va_D A wc) (hKc : va_K (dC, dI) vwCl tc s) (hFc : ∀ q, va_A wc H.size q → A q) (hE : ev E s) (hZ : es E A s H0) (hS : va_S A H0 H locs) : ∀ U : State, U.heap = H → s.WarmedH U.vm → va_Pc av (pre dC dI E wc tc H.size) av.toArray U := by
  intro U hU hW
  exact ⟨rfl, by rw [hU], by rw [hU]; exact hPc, va_K.moved hW.alike hKc, hDc.weaken (fun _ _ _ _ => trivial), hE.warm hW, by rw [hU]; exact ((hZ.kept hS.2.1).moved hW.alike).narrow hFc⟩
theorem pst_of {s t : State} {H : Heap} {A : Nat → Prop} {dC : Nat → ClassId} {dI : Nat → Nat → Nat} {wc : va_W} {tc : List (ClassId × FieldType)} (hP : va_P (dC, dI) vwCl wc H) (hD : va_D A wc) (hK : va_K (dC, dI) vwCl tc s) (ht : t.heap = H) (hW : s.WarmedH t.vm) : pst dC dI A wc tc t := ⟨by rw [ht]; exact hP, va_K.moved hW.alike hK, hD⟩
/-- behind a call: what is left of the caller's world beside the callee's -/
theorem pst_join {s t : State} {H H1 : Heap} {A : Nat → Prop} {dC : Nat → ClassId} {dI : Nat → Nat → Nat} {ws wc wr w1 : va_W} {tys tr t1 : List (ClassId × FieldType)} (hP : va_P (dC, dI) vwCl ws H) (hD : va_D A ws) (hK : va_K (dC, dI) vwCl tys s) (isC isR isT : List Nat) (hC : isC.map (fun i => ws[i]?) = wc.map some) (hR : isR.map (fun i => ws[i]?) = wr.map some) (hT : isT.filterMap (fun i => tys[i]?) = tr) (hn : va_nd isR = true) (hdis : ∀ i ∈ isR, i ∉ isC)
    (hk : ∀ q : Nat, q < H.size → ¬ va_A wc H.size q → H1[q]? = H[q]?) (hF : ∀ q, va_A wc H.size q → A q) (ht : t.heap = H1) (hvm : s.vm.Alike t.vm) (hB : pst dC dI (va_A wc H.size) w1 t1 t) : va_P (dC, dI) vwCl (wr ++ w1) H1 ∧ va_D A (wr ++ w1) ∧ va_K (dC, dI) vwCl (tr ++ t1) s := by
  obtain ⟨hP1, hK1, hD1⟩ := hB
  rw [ht] at hP1
  obtain ⟨h1, h2⟩ := va_join (wr := wr) (w1 := w1) hP hD isC isR hC hR hn hdis hk hF hP1 hD1
  exact ⟨h1, h2, (hK.sub (tys' := tr) isT hT).app (va_K.moved hvm.symm hK1)⟩
theorem pst_drop {s : State} {H H1 : Heap} {A : Nat → Prop} {dC : Nat → ClassId} {dI : Nat → Nat → Nat} {ws wc wr : va_W} {tys tr : List (ClassId × FieldType)} (hP : va_P (dC, dI) vwCl ws H) (hD : va_D A ws) (hK : va_K (dC, dI) vwCl tys s) (isC isR isT : List Nat) (hC : isC.map (fun i => ws[i]?) = wc.map some) (hR : isR.map (fun i => ws[i]?) = wr.map some) (hT : isT.filterMap (fun i => tys[i]?) = tr) (hn : va_nd isR = true) (hdis : ∀ i ∈ isR, i ∉ isC)
    (hk : ∀ q : Nat, q < H.size → ¬ va_A wc H.size q → H1[q]? = H[q]?) (hF : ∀ q, va_A wc H.size q → A q) : va_P (dC, dI) vwCl wr H1 ∧ va_D A wr ∧ va_K (dC, dI) vwCl tr s := by
  obtain ⟨h1, h2⟩ := va_join (wr := wr) (w1 := []) hP hD isC isR hC hR hn hdis hk hF (fun k q h => by simp at h) ⟨fun i j p q h => by simp at h, fun k q h => by simp at h⟩
  rw [List.append_nil] at h1 h2
  exact ⟨h1, h2, hK.sub (tys' := tr) isT hT⟩
def xB (X : String) : List Cond := [.castable X X, .declares (Bundle.initS "java/lang/RuntimeException"), .declares (Bundle.initS "java/lang/Exception"), .declares (Bundle.initS Bundle.tN)]
theorem xB_ok {args : Array Value} {s : State} {E : Nat → Nat} {X : String} (hE : ev E s) (hc : va_Nw (.castable X X) s) : ∀ w ∈ xB X, w.before args s = true := vx_c (va_Nw.use rfl hc) (vx_c (va_Nw.use rfl hE.2.2.1.2.2.2.2.2.2.2.2.1) (vx_c (va_Nw.use rfl hE.2.2.1.2.2.2.2.2.2.2.2.2.1) (vx_c (va_Nw.use rfl hE.2.2.1.2.2.2.2.2.2.2.2.2.2) vx_n)))
theorem ra_obj {U : State} {cA : ClassId} (h : va_RA U cA (.object "java/lang/Object")) : U.vm.findClass "[Ljava/lang/Object;" = some cA := by
  obtain ⟨_, _, _, _, _, h4⟩ := h
  have e : "[" ++ (FieldType.object "java/lang/Object").toString = "[Ljava/lang/Object;" := by decide +kernel
  rw [e] at h4
  exact h4
theorem le_of_pass {x : Int32} (hb : ¬ 90 < x) : 0 + x ≤ 9999 := by
  have h1 := Int32.not_lt.mp hb
  rw [Int32.zero_add]
  rw [Int32.le_iff_toInt_le] at h1 ⊢
  exact Int.le_trans h1 (by decide)
theorem pass_le {x : Int32} (hb : ¬ 90 < x) (h : 9999 < 0 + x) : False := Int32.not_lt.mpr (le_of_pass hb) h
theorem no_between {v : Int32} (h1 : ¬ v < 0) (h2 : ¬ (-1) < v) : False := by
  have a := Int32.not_lt.mp h1
  have b := Int32.not_lt.mp h2
  rw [Int32.le_iff_toInt_le] at a b
  have c : (-1 : Int32).toInt = -1 := by decide
  have d : (0 : Int32).toInt = 0 := by decide
  rw [c] at b
  rw [d] at a
  omega
theorem any_int {s : State} {H : Heap} {locs : List Loc} {A : Nat → Prop} {E : Nat → Nat} {k : Nat} (hE : ev E s) (hZ : es E A s s.heap) (hS : va_S A s.heap H locs) (hk : k < 256) : va_Any "java/lang/Object" s H (E (100 + k)) := by
  obtain ⟨cell, h1, h2, h3, -⟩ := (hZ.2.2.2.2.2.1 k hk).kept hS.2.1
  obtain ⟨c3, c4, hc3, hc4, hasg⟩ := Cond.castable_spec (va_Nw.use (A := #[]) rfl hE.2.2.1.2.2.2.2.2.2.1)
  cases Option.some.inj (hc3.symm.trans h3)
  exact ⟨cell, h1, h2, (by obtain ⟨k9, h9, -⟩ := Vm.findClass_spec h3; exact ⟨k9, h9⟩), fun comp hcomp => by cases Option.some.inj (hc4.symm.trans hcomp); exact hasg⟩
theorem lcmp_self (x : Int64) : lg_cmp x x = 0 := by
  unfold lg_cmp
  rw [if_neg (Int64.lt_irrefl (a := x)), if_pos rfl]
theorem pass_nat {x : Int32} (h1 : ¬ x < 1) (h2 : ¬ 90 < x) : ∃ n : Nat, n ≤ 90 ∧ x = nI n := by
  rcases pk_ix x (n := 91) (by decide) with h | h | ⟨j, hj, e⟩
  · exact absurd (Int32.lt_of_lt_of_le h (by decide)) h1
  · exact absurd (Int32.lt_of_lt_of_le (by decide) h) h2
  · exact ⟨j, by omega, e⟩
theorem not_low {x : Int32} (h : ¬ x < 0) : ¬ x < (-128) := fun h1 => h (Int32.lt_trans h1 (by decide))

set_option maxHeartbeats 4000000 in
set_option maxRecDepth 100000 in
theorem c_w_addRoom_n (l : Launch) (hst : l.stackTraces = false) (dC : Nat → ClassId) (dI : Nat → Nat → Nat) (E : Nat → Nat) (x : Nat) (a : Int32) (oA : Nat) (now : Nat) (fc : Nat) (sz : Nat) (h : ¬ (¬ a < 0 ∧ ¬ 200 < a)) : vx_Met l yL_addRoom wsL_addRoom ({ frames := 8, cells := 1, slots := 6, locals := 125 }) (va_Pc [.ref x, .int a, .ref oA] (pre dC dI E [(x, .inr (14, [.ref now, .ref fc]))] [] sz)) (va_Qi (fun (r : Int32) (_ : Unit) => r = 1) (fun _ t => True) (va_A [(x, .inr (14, [.ref now, .ref fc]))] sz)) (vx_X (fun _ : Unit => False) (fun _ _ _ => False) (va_A [(x, .inr (14, [.ref now, .ref fc]))] sz)) 1 6 (va_A [(x, .inr (14, [.ref now, .ref fc]))] sz) := by
  refine vx_ofWH (cc := cL_addRoom) (maxL := 4) (ret := (some .int)) (hh := [(0, 9, 12, 13), (0, 9, 15, 15)]) (by decide) rfl ?_
  intro p e s m args below meth c s₁ B hml hv
  obtain ⟨rfl, hsz, hP, hK, hD0, hE, hZ0⟩ := hv
  have hx := B.exec
  have hb := B.bytes
  have hr := B.returns
  have hts := atoms_spec (ws := wsL_addRoom) B.pre
  have hown : s.vm.findClass RL = some m.cls := findClass_of_methodNamed B.named
  have hlocks := B.notSynchronized
  have htb := vx_table (x := yL_addRoom) B (hts (.codeWith yL_addRoom cL_addRoom 4 (some .int) [(0, 9, 12, 13), (0, 9, 15, 15)]) List.mem_cons_self)
  subst hsz
  have hD := hD0.self (sz := s.heap.size)
  generalize hAe : va_A [(x, .inr (14, [.ref now, .ref fc]))] s.heap.size = A at hD hZ0 ⊢
  have hZ := hZ0
  have hA : ∀ q : Nat, s.heap.size ≤ q → A q := fun q h => by rw [← hAe]; exact Or.inr h
  have hS : va_S A s.heap s.heap [] := va_S.rf
  have hP : va_P (dC, dI) vwCl [(x, .inr (14, [.ref now, .ref fc]))] s.heap := hP
  have hl := lv_entry ([.ref x, .int a, .ref oA]) (n := 4) (Nat.le_of_ble_eq_true rfl)
  rw [lg_entry_eq]
  generalize (lg_sl ([.ref x, .int a, .ref oA]) ++ List.replicate (4 - (lg_sl ([.ref x, .int a, .ref oA])).length) Slot.unset).toArray = ls at hl ⊢
  have hl : lv_has ls 4 [(0, .ref x), (1, .int a), (2, .ref oA)] := hl
  refine lv_aload_n hx hb dL_addRoom_0 rfl (lv_at hl 2 rfl) ?_
  refine lv_iconst (v := 0) hx hb dL_addRoom_1 (by decide) ?_
  refine lv_aload_n hx hb dL_addRoom_2 rfl (lv_at hl 0 rfl) ?_
  refine lv_iload_n hx hb dL_addRoom_3 rfl (lv_at hl 1 rfl) ?_
  have hPc := hP.sub (ws' := []) [] rfl
  have hDc := hD.sub (ws' := []) [] (by decide) rfl
  have hKc := hK.sub (tys' := []) [] rfl
  have hFc := va_free (wc := []) hD hS hA [] rfl
  refine vx_calli (vx_runV (As := [.int a]) (rest := [.int 0, .ref oA]) ⟨hx, hb, hml, hown, hts⟩ (c_cx_addRoom_n l hst dC dI E x a s.heap.size h) (cwV 1 hts gL_addRoom_X8_addRoom rfl rfl rfl (by decide +kernel) ⟨(Nat.le_of_ble_eq_true rfl), (Nat.le_of_ble_eq_true rfl)⟩) ⟨pre_blind, va_recv hK hP (ci := 14) (q0 := 0) rfl rfl, pre_call hPc hDc hKc hFc hE hZ hS⟩ rfl rfl hl.1 rfl (lv_room (Nat.le_of_ble_eq_true rfl)) dL_addRoom_4 ⟨(Nat.le_of_ble_eq_true rfl), (Nat.le_of_ble_eq_true rfl)⟩) hS (fun q _ h => hFc q h) hFc (fun q _ h => hFc q h) (fun E9 ce q9 u t H1 locs1 ht hvm hw hB hz1 hk1 hS hc9 hv9 hf9 => ?_) (fun r u t H1 locs1 ht hvm hw hB hz1 hk1 hS => hw.elim)
  obtain rfl := hB
  refine vx_catch (name := "java/lang/IllegalArgumentException") hown [] ⟨0, 9, 12, 13⟩ [⟨0, 9, 15, 15⟩] htb (fun z hz => by cases hz) (by decide) (by decide) (hts (.classLink RL 13 "java/lang/IllegalArgumentException") (by decide +kernel)) (va_Nw.use rfl hE.2.2.1.2.1) hc9 hv9 hf9 ?_
  refine lv_astore_n (lv' := [(3, .ref q9), (0, .ref x), (1, .int a), (2, .ref oA)]) hx hb dL_addRoom_12 rfl hl (by decide) rfl (fun ls hl => ?_)
  refine lv_iconst (v := 1) hx hb dL_addRoom_13 (by decide) ?_
  refine vx_ret ?_
  refine W.widen (k := 1) (n := 6) (Nat.le_of_ble_eq_true rfl) (Nat.le_of_ble_eq_true rfl) ?_
  exact W.iret (v := 1) hx hb hr (fun t ht hW => ⟨⟨1, (), rfl, rfl, trivial⟩, hS.F ht⟩) hS.2.2 dL_addRoom_14

set_option maxHeartbeats 4000000 in
set_option maxRecDepth 100000 in
theorem c_w_addRoom_y (l : Launch) (dC : Nat → ClassId) (dI : Nat → Nat → Nat) (E : Nat → Nat) (x : Nat) (now : Nat) (fc : Nat) (ro : Nat) (hto : Nat) (de : Nat) (cr : Nat) (co : Nat) (sh : Nat) (eo : Nat) (a0 : Nat) (a1 : Nat) (a2 : Nat) (cR : ClassId) (a : Int32) (oA : Nat) (cJ : ClassId) (fj : Nat → Int64) (sz : Nat) (hla : ¬ a < 0) (hua : ¬ 200 < a) : vx_Met l yL_addRoom wsL_addRoom ({ frames := 2, cells := 0, slots := 0, locals := 43 }) (va_Pc [.ref x, .int a, .ref oA] (pre dC dI E [(x, .inr (14, [.ref now, .ref fc])), (now, .inr (13, [.ref ro, .ref hto, .ref de, .ref cr, .ref co, .ref sh, .ref eo, .int 0, .int 0, .int 10, .int 100, .int 50, .int 0, .int 50])), (ro, .inr (11, [.ref a0, .ref a1, .ref a2, .int 0, .int 0])), (a0, .inl (cR, 6, .inl (fun _ => 0))), (oA, .inl (cJ, 1, .inr (.inl fj)))] [(cR, .int), (cJ, .long)] sz)) (va_Qi (fun (r : Int32) (_ : Unit) => r = 0) (fun _ t => ∃ g : Nat → Int64, g 0 = 0 ∧ pst dC dI (va_A [(x, .inr (14, [.ref now, .ref fc])), (now, .inr (13, [.ref ro, .ref hto, .ref de, .ref cr, .ref co, .ref sh, .ref eo, .int 0, .int 0, .int 10, .int 100, .int 50, .int 0, .int 50])), (ro, .inr (11, [.ref a0, .ref a1, .ref a2, .int 0, .int 0])), (a0, .inl (cR, 6, .inl (fun _ => 0))), (oA, .inl (cJ, 1, .inr (.inl fj)))] sz) [(oA, .inl (cJ, 1, .inr (.inl g)))] [(cJ, .long)] t) (va_A [(x, .inr (14, [.ref now, .ref fc])), (now, .inr (13, [.ref ro, .ref hto, .ref de, .ref cr, .ref co, .ref sh, .ref eo, .int 0, .int 0, .int 10, .int 100, .int 50, .int 0, .int 50])), (ro, .inr (11, [.ref a0, .ref a1, .ref a2, .int 0, .int 0])), (a0, .inl (cR, 6, .inl (fun _ => 0))), (oA, .inl (cJ, 1, .inr (.inl fj)))] sz)) (vx_X (fun _ : Unit => False) (fun _ _ _ => False) (va_A [(x, .inr (14, [.ref now, .ref fc])), (now, .inr (13, [.ref ro, .ref hto, .ref de, .ref cr, .ref co, .ref sh, .ref eo, .int 0, .int 0, .int 10, .int 100, .int 50, .int 0, .int 50])), (ro, .inr (11, [.ref a0, .ref a1, .ref a2, .int 0, .int 0])), (a0, .inl (cR, 6, .inl (fun _ => 0))), (oA, .inl (cJ, 1, .inr (.inl fj)))] sz)) 0 0 (va_A [(x, .inr (14, [.ref now, .ref fc])), (now, .inr (13, [.ref ro, .ref hto, .ref de, .ref cr, .ref co, .ref sh, .ref eo, .int 0, .int 0, .int 10, .int 100, .int 50, .int 0, .int 50])), (ro, .inr (11, [.ref a0, .ref a1, .ref a2, .int 0, .int 0])), (a0, .inl (cR, 6, .inl (fun _ => 0))), (oA, .inl (cJ, 1, .inr (.inl fj)))] sz) := by
  refine vx_ofWH (cc := cL_addRoom) (maxL := 4) (ret := (some .int)) (hh := [(0, 9, 12, 13), (0, 9, 15, 15)]) (by decide) rfl ?_
  intro p e s m args below meth c s₁ B hml hv
  obtain ⟨rfl, hsz, hP, hK, hD0, hE, hZ0⟩ := hv
  have hx := B.exec
  have hb := B.bytes
  have hr := B.returns
  have hts := atoms_spec (ws := wsL_addRoom) B.pre
  have hown : s.vm.findClass RL = some m.cls := findClass_of_methodNamed B.named
  have hlocks := B.notSynchronized
  have htb := vx_table (x := yL_addRoom) B (hts (.codeWith yL_addRoom cL_addRoom 4 (some .int) [(0, 9, 12, 13), (0, 9, 15, 15)]) List.mem_cons_self)
  subst hsz
  have hD := hD0.self (sz := s.heap.size)
  generalize hAe : va_A [(x, .inr (14, [.ref now, .ref fc])), (now, .inr (13, [.ref ro, .ref hto, .ref de, .ref cr, .ref co, .ref sh, .ref eo, .int 0, .int 0, .int 10, .int 100, .int 50, .int 0, .int 50])), (ro, .inr (11, [.ref a0, .ref a1, .ref a2, .int 0, .int 0])), (a0, .inl (cR, 6, .inl (fun _ => 0))), (oA, .inl (cJ, 1, .inr (.inl fj)))] s.heap.size = A at hD hZ0 ⊢
  have hZ := hZ0
  have hA : ∀ q : Nat, s.heap.size ≤ q → A q := fun q h => by rw [← hAe]; exact Or.inr h
  have hS : va_S A s.heap s.heap [] := va_S.rf
  have hP : va_P (dC, dI) vwCl [(x, .inr (14, [.ref now, .ref fc])), (now, .inr (13, [.ref ro, .ref hto, .ref de, .ref cr, .ref co, .ref sh, .ref eo, .int 0, .int 0, .int 10, .int 100, .int 50, .int 0, .int 50])), (ro, .inr (11, [.ref a0, .ref a1, .ref a2, .int 0, .int 0])), (a0, .inl (cR, 6, .inl (fun _ => 0))), (oA, .inl (cJ, 1, .inr (.inl fj)))] s.heap := hP
  have hl := lv_entry ([.ref x, .int a, .ref oA]) (n := 4) (Nat.le_of_ble_eq_true rfl)
  rw [lg_entry_eq]
  generalize (lg_sl ([.ref x, .int a, .ref oA]) ++ List.replicate (4 - (lg_sl ([.ref x, .int a, .ref oA])).length) Slot.unset).toArray = ls at hl ⊢
  have hl : lv_has ls 4 [(0, .ref x), (1, .int a), (2, .ref oA)] := hl
  refine lv_aload_n hx hb dL_addRoom_0 rfl (lv_at hl 2 rfl) ?_
  refine lv_iconst (v := 0) hx hb dL_addRoom_1 (by decide) ?_
  refine lv_aload_n hx hb dL_addRoom_2 rfl (lv_at hl 0 rfl) ?_
  refine lv_iload_n hx hb dL_addRoom_3 rfl (lv_at hl 1 rfl) ?_
  have hPc := hP.sub (ws' := [(x, .inr (14, [.ref now, .ref fc])), (now, .inr (13, [.ref ro, .ref hto, .ref de, .ref cr, .ref co, .ref sh, .ref eo, .int 0, .int 0, .int 10, .int 100, .int 50, .int 0, .int 50])), (ro, .inr (11, [.ref a0, .ref a1, .ref a2, .int 0, .int 0])), (a0, .inl (cR, 6, .inl (fun _ => 0)))]) [0, 1, 2, 3] rfl
  have hDc := hD.sub (ws' := [(x, .inr (14, [.ref now, .ref fc])), (now, .inr (13, [.ref ro, .ref hto, .ref de, .ref cr, .ref co, .ref sh, .ref eo, .int 0, .int 0, .int 10, .int 100, .int 50, .int 0, .int 50])), (ro, .inr (11, [.ref a0, .ref a1, .ref a2, .int 0, .int 0])), (a0, .inl (cR, 6, .inl (fun _ => 0)))]) [0, 1, 2, 3] (by decide) rfl
  have hKc := hK.sub (tys' := [(cR, .int)]) [0] rfl
  have hFc := va_free (wc := [(x, .inr (14, [.ref now, .ref fc])), (now, .inr (13, [.ref ro, .ref hto, .ref de, .ref cr, .ref co, .ref sh, .ref eo, .int 0, .int 0, .int 10, .int 100, .int 50, .int 0, .int 50])), (ro, .inr (11, [.ref a0, .ref a1, .ref a2, .int 0, .int 0])), (a0, .inl (cR, 6, .inl (fun _ => 0)))]) hD hS hA [0, 1, 2, 3] rfl
  refine va_calli (va_runV (As := [.int a]) (rest := [.int 0, .ref oA]) ⟨hx, hb, hml, hown, hts⟩ (c_cx_addRoom_y l dC dI E x now fc ro hto de cr co sh eo a0 a1 a2 cR a s.heap.size hla hua) (cwV 1 hts gL_addRoom_X8_addRoom rfl rfl rfl (by decide +kernel) ⟨(Nat.le_of_ble_eq_true rfl), (Nat.le_of_ble_eq_true rfl)⟩) ⟨pre_blind, va_recv hKc hPc (ci := 14) (q0 := 0) rfl rfl, pre_call hPc hDc hKc hFc hE hZ hS⟩ rfl rfl hl.1 rfl (lv_room (Nat.le_of_ble_eq_true rfl)) dL_addRoom_4 ⟨(Nat.le_of_ble_eq_true rfl), (Nat.le_of_ble_eq_true rfl)⟩) hS (fun q _ h => hFc q h) hFc (fun r u t H1 locs1 ht hvm hw hB hz1 hk1 hS => ?_)
  have hw9 : r = 0 := hw
  rw [hw9]
  obtain ⟨hP, hD, hK⟩ := pst_drop (wc := [(x, .inr (14, [.ref now, .ref fc])), (now, .inr (13, [.ref ro, .ref hto, .ref de, .ref cr, .ref co, .ref sh, .ref eo, .int 0, .int 0, .int 10, .int 100, .int 50, .int 0, .int 50])), (ro, .inr (11, [.ref a0, .ref a1, .ref a2, .int 0, .int 0])), (a0, .inl (cR, 6, .inl (fun _ => 0)))]) (wr := [(oA, .inl (cJ, 1, .inr (.inl fj)))]) (tr := [(cJ, .long)]) hP hD hK [0, 1, 2, 3] [4] [1] rfl rfl rfl (by decide) (by decide) hk1 hFc
  generalize H1 = H at hP hS ⊢
  have hP : va_P (dC, dI) vwCl [(oA, .inl (cJ, 1, .inr (.inl fj)))] H := hP
  have hD : va_D A [(oA, .inl (cJ, 1, .inr (.inl fj)))] := hD
  have hK : va_K (dC, dI) vwCl [(cJ, .long)] s := hK
  refine W.widen (k := 0) (n := 0) (Nat.le_of_ble_eq_true rfl) (Nat.le_of_ble_eq_true rfl) ?_
  refine lv_i2l (v := 0) hx hb dL_addRoom_7 (by decide) ?_
  refine va_last hx hb hK hP hD hS 0 0 rfl rfl (by unfold vp_in; decide) dL_addRoom_8 (fun H locs hP hD hS => ?_)
  have hP : va_P (dC, dI) vwCl [(oA, .inl (cJ, 1, .inr (.inl (vp_updL fj (0 : Int32).toNatClampNeg 0))))] H := hP
  have hD : va_D A [(oA, .inl (cJ, 1, .inr (.inl (vp_updL fj (0 : Int32).toNatClampNeg 0))))] := hD
  obtain ⟨f_3, ef_3⟩ : ∃ y : Nat → Int64, y = vp_updL fj (0 : Int32).toNatClampNeg 0 := ⟨_, rfl⟩
  rw [← ef_3] at hP hD
  have hP : va_P (dC, dI) vwCl [(oA, .inl (cJ, 1, .inr (.inl f_3)))] H := hP
  have hD : va_D A [(oA, .inl (cJ, 1, .inr (.inl f_3)))] := hD
  refine lv_goto (tgt := 18) hx hb dL_addRoom_9 (by decide) ?_
  refine lv_iconst (v := 0) hx hb dL_addRoom_18 (by decide) ?_
  have hP9 := hP.sub (ws' := [(oA, .inl (cJ, 1, .inr (.inl f_3)))]) [0] rfl
  have hD9 := hD.sub (ws' := [(oA, .inl (cJ, 1, .inr (.inl f_3)))]) [0] (by decide) rfl
  have hK9 := hK.sub (tys' := [(cJ, .long)]) [0] rfl
  refine vx_ret ?_
  refine W.widen (k := 0) (n := 0) (Nat.le_of_ble_eq_true rfl) (Nat.le_of_ble_eq_true rfl) ?_
  exact W.iret (v := 0) hx hb hr (fun t ht hW => ⟨⟨0, (), rfl, rfl, ⟨f_3, (by rw [ef_3]; exact if_pos (by decide)), pst_of hP9 hD9 hK9 ht hW⟩⟩, hS.F ht⟩) hS.2.2 dL_addRoom_19

set_option maxHeartbeats 4000000 in
set_option maxRecDepth 100000 in
theorem c_w_addHatch (l : Launch) (hst : l.stackTraces = false) (dC : Nat → ClassId) (dI : Nat → Nat → Nat) (E : Nat → Nat) (x : Nat) (now : Nat) (fc : Nat) (ro : Nat) (hto : Nat) (de : Nat) (cr : Nat) (co : Nat) (sh : Nat) (eo : Nat) (a0 : Nat) (a1 : Nat) (a2 : Nat) (a : Int32) (b : Int32) (oA : Nat) (sz : Nat) : vx_Met l yL_addHatch wsL_addHatch ({ frames := 9, cells := 1, slots := 6, locals := 146 }) (va_Pc [.ref x, .int a, .int b, .ref oA] (pre dC dI E [(x, .inr (14, [.ref now, .ref fc])), (now, .inr (13, [.ref ro, .ref hto, .ref de, .ref cr, .ref co, .ref sh, .ref eo, .int 0, .int 0, .int 10, .int 100, .int 50, .int 0, .int 50])), (ro, .inr (11, [.ref a0, .ref a1, .ref a2, .int 0, .int 0]))] [] sz)) (va_Qi (fun (r : Int32) (_ : Unit) => r = 1) (fun _ t => True) (va_A [(x, .inr (14, [.ref now, .ref fc])), (now, .inr (13, [.ref ro, .ref hto, .ref de, .ref cr, .ref co, .ref sh, .ref eo, .int 0, .int 0, .int 10, .int 100, .int 50, .int 0, .int 50])), (ro, .inr (11, [.ref a0, .ref a1, .ref a2, .int 0, .int 0]))] sz)) (vx_X (fun _ : Unit => False) (fun _ _ _ => False) (va_A [(x, .inr (14, [.ref now, .ref fc])), (now, .inr (13, [.ref ro, .ref hto, .ref de, .ref cr, .ref co, .ref sh, .ref eo, .int 0, .int 0, .int 10, .int 100, .int 50, .int 0, .int 50])), (ro, .inr (11, [.ref a0, .ref a1, .ref a2, .int 0, .int 0]))] sz)) 1 6 (va_A [(x, .inr (14, [.ref now, .ref fc])), (now, .inr (13, [.ref ro, .ref hto, .ref de, .ref cr, .ref co, .ref sh, .ref eo, .int 0, .int 0, .int 10, .int 100, .int 50, .int 0, .int 50])), (ro, .inr (11, [.ref a0, .ref a1, .ref a2, .int 0, .int 0]))] sz) := by
  refine vx_ofWH (cc := cL_addHatch) (maxL := 5) (ret := (some .int)) (hh := [(0, 10, 13, 21), (0, 10, 17, 13), (0, 10, 21, 15)]) (by decide) rfl ?_
  intro p e s m args below meth c s₁ B hml hv
  obtain ⟨rfl, hsz, hP, hK, hD0, hE, hZ0⟩ := hv
  have hx := B.exec
  have hb := B.bytes
  have hr := B.returns
  have hts := atoms_spec (ws := wsL_addHatch) B.pre
  have hown : s.vm.findClass RL = some m.cls := findClass_of_methodNamed B.named
  have hlocks := B.notSynchronized
  have htb := vx_table (x := yL_addHatch) B (hts (.codeWith yL_addHatch cL_addHatch 5 (some .int) [(0, 10, 13, 21), (0, 10, 17, 13), (0, 10, 21, 15)]) List.mem_cons_self)
  subst hsz
  have hD := hD0.self (sz := s.heap.size)
  generalize hAe : va_A [(x, .inr (14, [.ref now, .ref fc])), (now, .inr (13, [.ref ro, .ref hto, .ref de, .ref cr, .ref co, .ref sh, .ref eo, .int 0, .int 0, .int 10, .int 100, .int 50, .int 0, .int 50])), (ro, .inr (11, [.ref a0, .ref a1, .ref a2, .int 0, .int 0]))] s.heap.size = A at hD hZ0 ⊢
  have hZ := hZ0
  have hA : ∀ q : Nat, s.heap.size ≤ q → A q := fun q h => by rw [← hAe]; exact Or.inr h
  have hS : va_S A s.heap s.heap [] := va_S.rf
  have hP : va_P (dC, dI) vwCl [(x, .inr (14, [.ref now, .ref fc])), (now, .inr (13, [.ref ro, .ref hto, .ref de, .ref cr, .ref co, .ref sh, .ref eo, .int 0, .int 0, .int 10, .int 100, .int 50, .int 0, .int 50])), (ro, .inr (11, [.ref a0, .ref a1, .ref a2, .int 0, .int 0]))] s.heap := hP
  have hl := lv_entry ([.ref x, .int a, .int b, .ref oA]) (n := 5) (Nat.le_of_ble_eq_true rfl)
  rw [lg_entry_eq]
  generalize (lg_sl ([.ref x, .int a, .int b, .ref oA]) ++ List.replicate (5 - (lg_sl ([.ref x, .int a, .int b, .ref oA])).length) Slot.unset).toArray = ls at hl ⊢
  have hl : lv_has ls 5 [(0, .ref x), (1, .int a), (2, .int b), (3, .ref oA)] := hl
  refine lv_aload_n hx hb dL_addHatch_0 rfl (lv_at hl 3 rfl) ?_
  refine lv_iconst (v := 0) hx hb dL_addHatch_1 (by decide) ?_
  refine lv_aload_n hx hb dL_addHatch_2 rfl (lv_at hl 0 rfl) ?_
  refine lv_iload_n hx hb dL_addHatch_3 rfl (lv_at hl 1 rfl) ?_
  refine lv_iload_n hx hb dL_addHatch_4 rfl (lv_at hl 2 rfl) ?_
  have hPc := hP.sub (ws' := [(x, .inr (14, [.ref now, .ref fc])), (now, .inr (13, [.ref ro, .ref hto, .ref de, .ref cr, .ref co, .ref sh, .ref eo, .int 0, .int 0, .int 10, .int 100, .int 50, .int 0, .int 50])), (ro, .inr (11, [.ref a0, .ref a1, .ref a2, .int 0, .int 0]))]) [0, 1, 2] rfl
  have hDc := hD.sub (ws' := [(x, .inr (14, [.ref now, .ref fc])), (now, .inr (13, [.ref ro, .ref hto, .ref de, .ref cr, .ref co, .ref sh, .ref eo, .int 0, .int 0, .int 10, .int 100, .int 50, .int 0, .int 50])), (ro, .inr (11, [.ref a0, .ref a1, .ref a2, .int 0, .int 0]))]) [0, 1, 2] (by decide) rfl
  have hKc := hK.sub (tys' := []) [] rfl
  have hFc := va_free (wc := [(x, .inr (14, [.ref now, .ref fc])), (now, .inr (13, [.ref ro, .ref hto, .ref de, .ref cr, .ref co, .ref sh, .ref eo, .int 0, .int 0, .int 10, .int 100, .int 50, .int 0, .int 50])), (ro, .inr (11, [.ref a0, .ref a1, .ref a2, .int 0, .int 0]))]) hD hS hA [0, 1, 2] rfl
  refine vx_calli (vx_runV (As := [.int a, .int b]) (rest := [.int 0, .ref oA]) ⟨hx, hb, hml, hown, hts⟩ (c_cx_addHatch l hst dC dI E x now fc ro hto de cr co sh eo a0 a1 a2 a b s.heap.size) (cwV 2 hts gL_addHatch_X8_addHatch rfl rfl rfl (by decide +kernel) ⟨(Nat.le_of_ble_eq_true rfl), (Nat.le_of_ble_eq_true rfl)⟩) ⟨pre_blind, va_recv hKc hPc (ci := 14) (q0 := 0) rfl rfl, pre_call hPc hDc hKc hFc hE hZ hS⟩ rfl rfl hl.1 rfl (lv_room (Nat.le_of_ble_eq_true rfl)) dL_addHatch_5 ⟨(Nat.le_of_ble_eq_true rfl), (Nat.le_of_ble_eq_true rfl)⟩) hS (fun q _ h => hFc q h) hFc (fun q _ h => hFc q h) (fun E9 ce q9 u t H1 locs1 ht hvm hw hB hz1 hk1 hS hc9 hv9 hf9 => ?_) (fun r u t H1 locs1 ht hvm hw hB hz1 hk1 hS => hw.elim)
  obtain rfl := hB
  refine vx_catch (name := "java/lang/IndexOutOfBoundsException") hown [] ⟨0, 10, 13, 21⟩ [⟨0, 10, 17, 13⟩, ⟨0, 10, 21, 15⟩] htb (fun z hz => by cases hz) (by decide) (by decide) (hts (.classLink RL 21 "java/lang/IndexOutOfBoundsException") (by decide +kernel)) (va_Nw.use rfl hE.2.2.1.2.2.1) hc9 hv9 hf9 ?_
  refine lv_astore (lv' := [(4, .ref q9), (0, .ref x), (1, .int a), (2, .int b), (3, .ref oA)]) hx hb dL_addHatch_13 hl (by decide) rfl (fun ls hl => ?_)
  refine lv_iconst (v := 1) hx hb dL_addHatch_15 (by decide) ?_
  refine vx_ret ?_
  refine W.widen (k := 1) (n := 6) (Nat.le_of_ble_eq_true rfl) (Nat.le_of_ble_eq_true rfl) ?_
  exact W.iret (v := 1) hx hb hr (fun t ht hW => ⟨⟨1, (), rfl, rfl, trivial⟩, hS.F ht⟩) hS.2.2 dL_addHatch_16

set_option maxHeartbeats 4000000 in
set_option maxRecDepth 100000 in
theorem c_w_setHatch (l : Launch) (hst : l.stackTraces = false) (dC : Nat → ClassId) (dI : Nat → Nat → Nat) (E : Nat → Nat) (x : Nat) (now : Nat) (fc : Nat) (ro : Nat) (hto : Nat) (de : Nat) (cr : Nat) (co : Nat) (sh : Nat) (eo : Nat) (g0 : Nat) (g1 : Nat) (g2 : Nat) (a : Int32) (b : Int32) (oA : Nat) (sz : Nat) : vx_Met l yL_setHatch wsL_setHatch ({ frames := 8, cells := 1, slots := 6, locals := 126 }) (va_Pc [.ref x, .int a, .int b, .ref oA] (pre dC dI E [(x, .inr (14, [.ref now, .ref fc])), (now, .inr (13, [.ref ro, .ref hto, .ref de, .ref cr, .ref co, .ref sh, .ref eo, .int 0, .int 0, .int 10, .int 100, .int 50, .int 0, .int 50])), (hto, .inr (10, [.ref g0, .ref g1, .ref g2, .int 0]))] [] sz)) (va_Qi (fun (r : Int32) (_ : Unit) => r = 1) (fun _ t => True) (va_A [(x, .inr (14, [.ref now, .ref fc])), (now, .inr (13, [.ref ro, .ref hto, .ref de, .ref cr, .ref co, .ref sh, .ref eo, .int 0, .int 0, .int 10, .int 100, .int 50, .int 0, .int 50])), (hto, .inr (10, [.ref g0, .ref g1, .ref g2, .int 0]))] sz)) (vx_X (fun _ : Unit => False) (fun _ _ _ => False) (va_A [(x, .inr (14, [.ref now, .ref fc])), (now, .inr (13, [.ref ro, .ref hto, .ref de, .ref cr, .ref co, .ref sh, .ref eo, .int 0, .int 0, .int 10, .int 100, .int 50, .int 0, .int 50])), (hto, .inr (10, [.ref g0, .ref g1, .ref g2, .int 0]))] sz)) 1 6 (va_A [(x, .inr (14, [.ref now, .ref fc])), (now, .inr (13, [.ref ro, .ref hto, .ref de, .ref cr, .ref co, .ref sh, .ref eo, .int 0, .int 0, .int 10, .int 100, .int 50, .int 0, .int 50])), (hto, .inr (10, [.ref g0, .ref g1, .ref g2, .int 0]))] sz) := by
  refine vx_ofWH (cc := cL_setHatch) (maxL := 5) (ret := (some .int)) (hh := [(0, 17, 20, 21)]) (by decide) rfl ?_
  intro p e s m args below meth c s₁ B hml hv
  obtain ⟨rfl, hsz, hP, hK, hD0, hE, hZ0⟩ := hv
  have hx := B.exec
  have hb := B.bytes
  have hr := B.returns
  have hts := atoms_spec (ws := wsL_setHatch) B.pre
  have hown : s.vm.findClass RL = some m.cls := findClass_of_methodNamed B.named
  have hlocks := B.notSynchronized
  have htb := vx_table (x := yL_setHatch) B (hts (.codeWith yL_setHatch cL_setHatch 5 (some .int) [(0, 17, 20, 21)]) List.mem_cons_self)
  subst hsz
  have hD := hD0.self (sz := s.heap.size)
  generalize hAe : va_A [(x, .inr (14, [.ref now, .ref fc])), (now, .inr (13, [.ref ro, .ref hto, .ref de, .ref cr, .ref co, .ref sh, .ref eo, .int 0, .int 0, .int 10, .int 100, .int 50, .int 0, .int 50])), (hto, .inr (10, [.ref g0, .ref g1, .ref g2, .int 0]))] s.heap.size = A at hD hZ0 ⊢
  have hZ := hZ0
  have hA : ∀ q : Nat, s.heap.size ≤ q → A q := fun q h => by rw [← hAe]; exact Or.inr h
  have hS : va_S A s.heap s.heap [] := va_S.rf
  have hP : va_P (dC, dI) vwCl [(x, .inr (14, [.ref now, .ref fc])), (now, .inr (13, [.ref ro, .ref hto, .ref de, .ref cr, .ref co, .ref sh, .ref eo, .int 0, .int 0, .int 10, .int 100, .int 50, .int 0, .int 50])), (hto, .inr (10, [.ref g0, .ref g1, .ref g2, .int 0]))] s.heap := hP
  have hl := lv_entry ([.ref x, .int a, .int b, .ref oA]) (n := 5) (Nat.le_of_ble_eq_true rfl)
  rw [lg_entry_eq]
  generalize (lg_sl ([.ref x, .int a, .int b, .ref oA]) ++ List.replicate (5 - (lg_sl ([.ref x, .int a, .int b, .ref oA])).length) Slot.unset).toArray = ls at hl ⊢
  have hl : lv_has ls 5 [(0, .ref x), (1, .int a), (2, .int b), (3, .ref oA)] := hl
  refine lv_aload_n hx hb dL_setHatch_0 rfl (lv_at hl 3 rfl) ?_
  refine lv_iconst (v := 0) hx hb dL_setHatch_1 (by decide) ?_
  refine lv_aload_n hx hb dL_setHatch_2 rfl (lv_at hl 0 rfl) ?_
  refine lv_iload_n hx hb dL_setHatch_3 rfl (lv_at hl 1 rfl) ?_
  refine lv_iload_n hx hb dL_setHatch_4 rfl (lv_at hl 2 rfl) ?_
  have hPc := hP.sub (ws' := [(x, .inr (14, [.ref now, .ref fc])), (now, .inr (13, [.ref ro, .ref hto, .ref de, .ref cr, .ref co, .ref sh, .ref eo, .int 0, .int 0, .int 10, .int 100, .int 50, .int 0, .int 50])), (hto, .inr (10, [.ref g0, .ref g1, .ref g2, .int 0]))]) [0, 1, 2] rfl
  have hDc := hD.sub (ws' := [(x, .inr (14, [.ref now, .ref fc])), (now, .inr (13, [.ref ro, .ref hto, .ref de, .ref cr, .ref co, .ref sh, .ref eo, .int 0, .int 0, .int 10, .int 100, .int 50, .int 0, .int 50])), (hto, .inr (10, [.ref g0, .ref g1, .ref g2, .int 0]))]) [0, 1, 2] (by decide) rfl
  have hKc := hK.sub (tys' := []) [] rfl
  have hFc := va_free (wc := [(x, .inr (14, [.ref now, .ref fc])), (now, .inr (13, [.ref ro, .ref hto, .ref de, .ref cr, .ref co, .ref sh, .ref eo, .int 0, .int 0, .int 10, .int 100, .int 50, .int 0, .int 50])), (hto, .inr (10, [.ref g0, .ref g1, .ref g2, .int 0]))]) hD hS hA [0, 1, 2] rfl
  refine vx_calli (vx_runV (As := [.int a, .int b]) (rest := [.int 0, .ref oA]) ⟨hx, hb, hml, hown, hts⟩ (c_cx_setHatch l hst dC dI E x now fc ro hto de cr co sh eo g0 g1 g2 a b s.heap.size) (cwV 2 hts gL_setHatch_X8_setHatch rfl rfl rfl (by decide +kernel) ⟨(Nat.le_of_ble_eq_true rfl), (Nat.le_of_ble_eq_true rfl)⟩) ⟨pre_blind, va_recv hKc hPc (ci := 14) (q0 := 0) rfl rfl, pre_call hPc hDc hKc hFc hE hZ hS⟩ rfl rfl hl.1 rfl (lv_room (Nat.le_of_ble_eq_true rfl)) dL_setHatch_5 ⟨(Nat.le_of_ble_eq_true rfl), (Nat.le_of_ble_eq_true rfl)⟩) hS (fun q _ h => hFc q h) hFc (fun q _ h => hFc q h) (fun E9 ce q9 u t H1 locs1 ht hvm hw hB hz1 hk1 hS hc9 hv9 hf9 => ?_) (fun r u t H1 locs1 ht hvm hw hB hz1 hk1 hS => hw.elim)
  obtain rfl := hB
  refine vx_catch (name := "java/lang/IndexOutOfBoundsException") hown [] ⟨0, 17, 20, 21⟩ [] htb (fun z hz => by cases hz) (by decide) (by decide) (hts (.classLink RL 21 "java/lang/IndexOutOfBoundsException") (by decide +kernel)) (va_Nw.use rfl hE.2.2.1.2.2.1) hc9 hv9 hf9 ?_
  refine lv_astore (lv' := [(4, .ref q9), (0, .ref x), (1, .int a), (2, .int b), (3, .ref oA)]) hx hb dL_setHatch_20 hl (by decide) rfl (fun ls hl => ?_)
  refine lv_iconst (v := 1) hx hb dL_setHatch_22 (by decide) ?_
  refine vx_ret ?_
  refine W.widen (k := 1) (n := 6) (Nat.le_of_ble_eq_true rfl) (Nat.le_of_ble_eq_true rfl) ?_
  exact W.iret (v := 1) hx hb hr (fun t ht hW => ⟨⟨1, (), rfl, rfl, trivial⟩, hS.F ht⟩) hS.2.2 dL_setHatch_23

set_option maxHeartbeats 4000000 in
set_option maxRecDepth 100000 in
theorem c_w_setLeak (l : Launch) (hst : l.stackTraces = false) (dC : Nat → ClassId) (dI : Nat → Nat → Nat) (E : Nat → Nat) (x : Nat) (now : Nat) (fc : Nat) (ro : Nat) (hto : Nat) (de : Nat) (cr : Nat) (co : Nat) (sh : Nat) (eo : Nat) (a0 : Nat) (a1 : Nat) (a2 : Nat) (a : Int32) (b : Int32) (oA : Nat) (sz : Nat) : vx_Met l yL_setLeak wsL_setLeak ({ frames := 9, cells := 1, slots := 6, locals := 147 }) (va_Pc [.ref x, .int a, .int b, .ref oA] (pre dC dI E [(x, .inr (14, [.ref now, .ref fc])), (now, .inr (13, [.ref ro, .ref hto, .ref de, .ref cr, .ref co, .ref sh, .ref eo, .int 0, .int 0, .int 10, .int 100, .int 50, .int 0, .int 50])), (ro, .inr (11, [.ref a0, .ref a1, .ref a2, .int 0, .int 0]))] [] sz)) (va_Qi (fun (r : Int32) (_ : Unit) => r = 1) (fun _ t => True) (va_A [(x, .inr (14, [.ref now, .ref fc])), (now, .inr (13, [.ref ro, .ref hto, .ref de, .ref cr, .ref co, .ref sh, .ref eo, .int 0, .int 0, .int 10, .int 100, .int 50, .int 0, .int 50])), (ro, .inr (11, [.ref a0, .ref a1, .ref a2, .int 0, .int 0]))] sz)) (vx_X (fun _ : Unit => False) (fun _ _ _ => False) (va_A [(x, .inr (14, [.ref now, .ref fc])), (now, .inr (13, [.ref ro, .ref hto, .ref de, .ref cr, .ref co, .ref sh, .ref eo, .int 0, .int 0, .int 10, .int 100, .int 50, .int 0, .int 50])), (ro, .inr (11, [.ref a0, .ref a1, .ref a2, .int 0, .int 0]))] sz)) 1 6 (va_A [(x, .inr (14, [.ref now, .ref fc])), (now, .inr (13, [.ref ro, .ref hto, .ref de, .ref cr, .ref co, .ref sh, .ref eo, .int 0, .int 0, .int 10, .int 100, .int 50, .int 0, .int 50])), (ro, .inr (11, [.ref a0, .ref a1, .ref a2, .int 0, .int 0]))] sz) := by
  refine vx_ofWH (cc := cL_setLeak) (maxL := 5) (ret := (some .int)) (hh := [(0, 10, 13, 21), (0, 10, 17, 13)]) (by decide) rfl ?_
  intro p e s m args below meth c s₁ B hml hv
  obtain ⟨rfl, hsz, hP, hK, hD0, hE, hZ0⟩ := hv
  have hx := B.exec
  have hb := B.bytes
  have hr := B.returns
  have hts := atoms_spec (ws := wsL_setLeak) B.pre
  have hown : s.vm.findClass RL = some m.cls := findClass_of_methodNamed B.named
  have hlocks := B.notSynchronized
  have htb := vx_table (x := yL_setLeak) B (hts (.codeWith yL_setLeak cL_setLeak 5 (some .int) [(0, 10, 13, 21), (0, 10, 17, 13)]) List.mem_cons_self)
  subst hsz
  have hD := hD0.self (sz := s.heap.size)
  generalize hAe : va_A [(x, .inr (14, [.ref now, .ref fc])), (now, .inr (13, [.ref ro, .ref hto, .ref de, .ref cr, .ref co, .ref sh, .ref eo, .int 0, .int 0, .int 10, .int 100, .int 50, .int 0, .int 50])), (ro, .inr (11, [.ref a0, .ref a1, .ref a2, .int 0, .int 0]))] s.heap.size = A at hD hZ0 ⊢
  have hZ := hZ0
  have hA : ∀ q : Nat, s.heap.size ≤ q → A q := fun q h => by rw [← hAe]; exact Or.inr h
  have hS : va_S A s.heap s.heap [] := va_S.rf
  have hP : va_P (dC, dI) vwCl [(x, .inr (14, [.ref now, .ref fc])), (now, .inr (13, [.ref ro, .ref hto, .ref de, .ref cr, .ref co, .ref sh, .ref eo, .int 0, .int 0, .int 10, .int 100, .int 50, .int 0, .int 50])), (ro, .inr (11, [.ref a0, .ref a1, .ref a2, .int 0, .int 0]))] s.heap := hP
  have hl := lv_entry ([.ref x, .int a, .int b, .ref oA]) (n := 5) (Nat.le_of_ble_eq_true rfl)
  rw [lg_entry_eq]
  generalize (lg_sl ([.ref x, .int a, .int b, .ref oA]) ++ List.replicate (5 - (lg_sl ([.ref x, .int a, .int b, .ref oA])).length) Slot.unset).toArray = ls at hl ⊢
  have hl : lv_has ls 5 [(0, .ref x), (1, .int a), (2, .int b), (3, .ref oA)] := hl
  refine lv_aload_n hx hb dL_setLeak_0 rfl (lv_at hl 3 rfl) ?_
  refine lv_iconst (v := 0) hx hb dL_setLeak_1 (by decide) ?_
  refine lv_aload_n hx hb dL_setLeak_2 rfl (lv_at hl 0 rfl) ?_
  refine lv_iload_n hx hb dL_setLeak_3 rfl (lv_at hl 1 rfl) ?_
  refine lv_iload_n hx hb dL_setLeak_4 rfl (lv_at hl 2 rfl) ?_
  have hPc := hP.sub (ws' := [(x, .inr (14, [.ref now, .ref fc])), (now, .inr (13, [.ref ro, .ref hto, .ref de, .ref cr, .ref co, .ref sh, .ref eo, .int 0, .int 0, .int 10, .int 100, .int 50, .int 0, .int 50])), (ro, .inr (11, [.ref a0, .ref a1, .ref a2, .int 0, .int 0]))]) [0, 1, 2] rfl
  have hDc := hD.sub (ws' := [(x, .inr (14, [.ref now, .ref fc])), (now, .inr (13, [.ref ro, .ref hto, .ref de, .ref cr, .ref co, .ref sh, .ref eo, .int 0, .int 0, .int 10, .int 100, .int 50, .int 0, .int 50])), (ro, .inr (11, [.ref a0, .ref a1, .ref a2, .int 0, .int 0]))]) [0, 1, 2] (by decide) rfl
  have hKc := hK.sub (tys' := []) [] rfl
  have hFc := va_free (wc := [(x, .inr (14, [.ref now, .ref fc])), (now, .inr (13, [.ref ro, .ref hto, .ref de, .ref cr, .ref co, .ref sh, .ref eo, .int 0, .int 0, .int 10, .int 100, .int 50, .int 0, .int 50])), (ro, .inr (11, [.ref a0, .ref a1, .ref a2, .int 0, .int 0]))]) hD hS hA [0, 1, 2] rfl
  refine vx_calli (vx_runV (As := [.int a, .int b]) (rest := [.int 0, .ref oA]) ⟨hx, hb, hml, hown, hts⟩ (c_cx_setLeak l hst dC dI E x now fc ro hto de cr co sh eo a0 a1 a2 a b s.heap.size) (cwV 2 hts gL_setLeak_X8_setLeak rfl rfl rfl (by decide +kernel) ⟨(Nat.le_of_ble_eq_true rfl), (Nat.le_of_ble_eq_true rfl)⟩) ⟨pre_blind, va_recv hKc hPc (ci := 14) (q0 := 0) rfl rfl, pre_call hPc hDc hKc hFc hE hZ hS⟩ rfl rfl hl.1 rfl (lv_room (Nat.le_of_ble_eq_true rfl)) dL_setLeak_5 ⟨(Nat.le_of_ble_eq_true rfl), (Nat.le_of_ble_eq_true rfl)⟩) hS (fun q _ h => hFc q h) hFc (fun q _ h => hFc q h) (fun E9 ce q9 u t H1 locs1 ht hvm hw hB hz1 hk1 hS hc9 hv9 hf9 => ?_) (fun r u t H1 locs1 ht hvm hw hB hz1 hk1 hS => hw.elim)
  obtain rfl := hB
  refine vx_catch (name := "java/lang/IndexOutOfBoundsException") hown [] ⟨0, 10, 13, 21⟩ [⟨0, 10, 17, 13⟩] htb (fun z hz => by cases hz) (by decide) (by decide) (hts (.classLink RL 21 "java/lang/IndexOutOfBoundsException") (by decide +kernel)) (va_Nw.use rfl hE.2.2.1.2.2.1) hc9 hv9 hf9 ?_
  refine lv_astore (lv' := [(4, .ref q9), (0, .ref x), (1, .int a), (2, .int b), (3, .ref oA)]) hx hb dL_setLeak_13 hl (by decide) rfl (fun ls hl => ?_)
  refine lv_iconst (v := 1) hx hb dL_setLeak_15 (by decide) ?_
  refine vx_ret ?_
  refine W.widen (k := 1) (n := 6) (Nat.le_of_ble_eq_true rfl) (Nat.le_of_ble_eq_true rfl) ?_
  exact W.iret (v := 1) hx hb hr (fun t ht hW => ⟨⟨1, (), rfl, rfl, trivial⟩, hS.F ht⟩) hS.2.2 dL_setLeak_16

set_option maxHeartbeats 4000000 in
set_option maxRecDepth 100000 in
theorem c_w_addDevice_y (l : Launch) (hst : l.stackTraces = false) (dC : Nat → ClassId) (dI : Nat → Nat → Nat) (E : Nat → Nat) (x : Nat) (now : Nat) (fc : Nat) (ro : Nat) (hto : Nat) (de : Nat) (cr : Nat) (co : Nat) (sh : Nat) (eo : Nat) (a0 : Nat) (a1 : Nat) (a2 : Nat) (k : Int32) (b : Int32) (oA : Nat) (sz : Nat) (hk : k = 115 ∨ k = 101 ∨ k = 108) : vx_Met l yL_addDevice wsL_addDevice ({ frames := 9, cells := 1, slots := 6, locals := 146 }) (va_Pc [.ref x, .int k, .int b, .ref oA] (pre dC dI E [(x, .inr (14, [.ref now, .ref fc])), (now, .inr (13, [.ref ro, .ref hto, .ref de, .ref cr, .ref co, .ref sh, .ref eo, .int 0, .int 0, .int 10, .int 100, .int 50, .int 0, .int 50])), (ro, .inr (11, [.ref a0, .ref a1, .ref a2, .int 0, .int 0]))] [] sz)) (va_Qi (fun (r : Int32) (_ : Unit) => r = 2) (fun _ t => True) (va_A [(x, .inr (14, [.ref now, .ref fc])), (now, .inr (13, [.ref ro, .ref hto, .ref de, .ref cr, .ref co, .ref sh, .ref eo, .int 0, .int 0, .int 10, .int 100, .int 50, .int 0, .int 50])), (ro, .inr (11, [.ref a0, .ref a1, .ref a2, .int 0, .int 0]))] sz)) (vx_X (fun _ : Unit => False) (fun _ _ _ => False) (va_A [(x, .inr (14, [.ref now, .ref fc])), (now, .inr (13, [.ref ro, .ref hto, .ref de, .ref cr, .ref co, .ref sh, .ref eo, .int 0, .int 0, .int 10, .int 100, .int 50, .int 0, .int 50])), (ro, .inr (11, [.ref a0, .ref a1, .ref a2, .int 0, .int 0]))] sz)) 1 6 (va_A [(x, .inr (14, [.ref now, .ref fc])), (now, .inr (13, [.ref ro, .ref hto, .ref de, .ref cr, .ref co, .ref sh, .ref eo, .int 0, .int 0, .int 10, .int 100, .int 50, .int 0, .int 50])), (ro, .inr (11, [.ref a0, .ref a1, .ref a2, .int 0, .int 0]))] sz) := by
  refine vx_ofWH (cc := cL_addDevice) (maxL := 5) (ret := (some .int)) (hh := [(0, 10, 13, 13), (0, 10, 17, 21), (0, 10, 21, 15)]) (by decide) rfl ?_
  intro p e s m args below meth c s₁ B hml hv
  obtain ⟨rfl, hsz, hP, hK, hD0, hE, hZ0⟩ := hv
  have hx := B.exec
  have hb := B.bytes
  have hr := B.returns
  have hts := atoms_spec (ws := wsL_addDevice) B.pre
  have hown : s.vm.findClass RL = some m.cls := findClass_of_methodNamed B.named
  have hlocks := B.notSynchronized
  have htb := vx_table (x := yL_addDevice) B (hts (.codeWith yL_addDevice cL_addDevice 5 (some .int) [(0, 10, 13, 13), (0, 10, 17, 21), (0, 10, 21, 15)]) List.mem_cons_self)
  subst hsz
  have hD := hD0.self (sz := s.heap.size)
  generalize hAe : va_A [(x, .inr (14, [.ref now, .ref fc])), (now, .inr (13, [.ref ro, .ref hto, .ref de, .ref cr, .ref co, .ref sh, .ref eo, .int 0, .int 0, .int 10, .int 100, .int 50, .int 0, .int 50])), (ro, .inr (11, [.ref a0, .ref a1, .ref a2, .int 0, .int 0]))] s.heap.size = A at hD hZ0 ⊢
  have hZ := hZ0
  have hA : ∀ q : Nat, s.heap.size ≤ q → A q := fun q h => by rw [← hAe]; exact Or.inr h
  have hS : va_S A s.heap s.heap [] := va_S.rf
  have hP : va_P (dC, dI) vwCl [(x, .inr (14, [.ref now, .ref fc])), (now, .inr (13, [.ref ro, .ref hto, .ref de, .ref cr, .ref co, .ref sh, .ref eo, .int 0, .int 0, .int 10, .int 100, .int 50, .int 0, .int 50])), (ro, .inr (11, [.ref a0, .ref a1, .ref a2, .int 0, .int 0]))] s.heap := hP
  have hl := lv_entry ([.ref x, .int k, .int b, .ref oA]) (n := 5) (Nat.le_of_ble_eq_true rfl)
  rw [lg_entry_eq]
  generalize (lg_sl ([.ref x, .int k, .int b, .ref oA]) ++ List.replicate (5 - (lg_sl ([.ref x, .int k, .int b, .ref oA])).length) Slot.unset).toArray = ls at hl ⊢
  have hl : lv_has ls 5 [(0, .ref x), (1, .int k), (2, .int b), (3, .ref oA)] := hl
  refine lv_aload_n hx hb dL_addDevice_0 rfl (lv_at hl 3 rfl) ?_
  refine lv_iconst (v := 0) hx hb dL_addDevice_1 (by decide) ?_
  refine lv_aload_n hx hb dL_addDevice_2 rfl (lv_at hl 0 rfl) ?_
  refine lv_iload_n hx hb dL_addDevice_3 rfl (lv_at hl 1 rfl) ?_
  refine lv_iload_n hx hb dL_addDevice_4 rfl (lv_at hl 2 rfl) ?_
  have hPc := hP.sub (ws' := [(x, .inr (14, [.ref now, .ref fc])), (now, .inr (13, [.ref ro, .ref hto, .ref de, .ref cr, .ref co, .ref sh, .ref eo, .int 0, .int 0, .int 10, .int 100, .int 50, .int 0, .int 50])), (ro, .inr (11, [.ref a0, .ref a1, .ref a2, .int 0, .int 0]))]) [0, 1, 2] rfl
  have hDc := hD.sub (ws' := [(x, .inr (14, [.ref now, .ref fc])), (now, .inr (13, [.ref ro, .ref hto, .ref de, .ref cr, .ref co, .ref sh, .ref eo, .int 0, .int 0, .int 10, .int 100, .int 50, .int 0, .int 50])), (ro, .inr (11, [.ref a0, .ref a1, .ref a2, .int 0, .int 0]))]) [0, 1, 2] (by decide) rfl
  have hKc := hK.sub (tys' := []) [] rfl
  have hFc := va_free (wc := [(x, .inr (14, [.ref now, .ref fc])), (now, .inr (13, [.ref ro, .ref hto, .ref de, .ref cr, .ref co, .ref sh, .ref eo, .int 0, .int 0, .int 10, .int 100, .int 50, .int 0, .int 50])), (ro, .inr (11, [.ref a0, .ref a1, .ref a2, .int 0, .int 0]))]) hD hS hA [0, 1, 2] rfl
  refine vx_calli (vx_runV (As := [.int k, .int b]) (rest := [.int 0, .ref oA]) ⟨hx, hb, hml, hown, hts⟩ (c_cx_addDevice_y l hst dC dI E x now fc ro hto de cr co sh eo a0 a1 a2 k b s.heap.size hk) (cwV 2 hts gL_addDevice_X8_addDevice rfl rfl rfl (by decide +kernel) ⟨(Nat.le_of_ble_eq_true rfl), (Nat.le_of_ble_eq_true rfl)⟩) ⟨pre_blind, va_recv hKc hPc (ci := 14) (q0 := 0) rfl rfl, pre_call hPc hDc hKc hFc hE hZ hS⟩ rfl rfl hl.1 rfl (lv_room (Nat.le_of_ble_eq_true rfl)) dL_addDevice_5 ⟨(Nat.le_of_ble_eq_true rfl), (Nat.le_of_ble_eq_true rfl)⟩) hS (fun q _ h => hFc q h) hFc (fun q _ h => hFc q h) (fun E9 ce q9 u t H1 locs1 ht hvm hw hB hz1 hk1 hS hc9 hv9 hf9 => ?_) (fun r u t H1 locs1 ht hvm hw hB hz1 hk1 hS => hw.elim)
  obtain rfl := hB
  refine vx_catch (name := "java/lang/IndexOutOfBoundsException") hown [⟨0, 10, 13, 13⟩] ⟨0, 10, 17, 21⟩ [⟨0, 10, 21, 15⟩] htb (fun z hz => by rcases List.mem_singleton.mp hz with rfl; exact Or.inr ⟨by decide, "java/lang/IllegalArgumentException", hts (.classLink RL 13 "java/lang/IllegalArgumentException") (by decide +kernel), hE.2.2.1.2.2.2.1⟩) (by decide) (by decide) (hts (.classLink RL 21 "java/lang/IndexOutOfBoundsException") (by decide +kernel)) (va_Nw.use rfl hE.2.2.1.2.2.1) hc9 hv9 hf9 ?_
  refine lv_astore (lv' := [(4, .ref q9), (0, .ref x), (1, .int k), (2, .int b), (3, .ref oA)]) hx hb dL_addDevice_17 hl (by decide) rfl (fun ls hl => ?_)
  refine lv_iconst (v := 2) hx hb dL_addDevice_19 (by decide) ?_
  refine vx_ret ?_
  refine W.widen (k := 1) (n := 6) (Nat.le_of_ble_eq_true rfl) (Nat.le_of_ble_eq_true rfl) ?_
  exact W.iret (v := 2) hx hb hr (fun t ht hW => ⟨⟨2, (), rfl, rfl, trivial⟩, hS.F ht⟩) hS.2.2 dL_addDevice_20

set_option maxHeartbeats 4000000 in
set_option maxRecDepth 100000 in
theorem c_w_addDevice_n (l : Launch) (hst : l.stackTraces = false) (dC : Nat → ClassId) (dI : Nat → Nat → Nat) (E : Nat → Nat) (x : Nat) (k : Int32) (b : Int32) (oA : Nat) (now : Nat) (fc : Nat) (sz : Nat) (hk : ¬ (k = 115 ∨ k = 101 ∨ k = 108)) : vx_Met l yL_addDevice wsL_addDevice ({ frames := 7, cells := 1, slots := 6, locals := 104 }) (va_Pc [.ref x, .int k, .int b, .ref oA] (pre dC dI E [(x, .inr (14, [.ref now, .ref fc]))] [] sz)) (va_Qi (fun (r : Int32) (_ : Unit) => r = 1) (fun _ t => True) (va_A [(x, .inr (14, [.ref now, .ref fc]))] sz)) (vx_X (fun _ : Unit => False) (fun _ _ _ => False) (va_A [(x, .inr (14, [.ref now, .ref fc]))] sz)) 1 6 (va_A [(x, .inr (14, [.ref now, .ref fc]))] sz) := by
  refine vx_ofWH (cc := cL_addDevice) (maxL := 5) (ret := (some .int)) (hh := [(0, 10, 13, 13), (0, 10, 17, 21), (0, 10, 21, 15)]) (by decide) rfl ?_
  intro p e s m args below meth c s₁ B hml hv
  obtain ⟨rfl, hsz, hP, hK, hD0, hE, hZ0⟩ := hv
  have hx := B.exec
  have hb := B.bytes
  have hr := B.returns
  have hts := atoms_spec (ws := wsL_addDevice) B.pre
  have hown : s.vm.findClass RL = some m.cls := findClass_of_methodNamed B.named
  have hlocks := B.notSynchronized
  have htb := vx_table (x := yL_addDevice) B (hts (.codeWith yL_addDevice cL_addDevice 5 (some .int) [(0, 10, 13, 13), (0, 10, 17, 21), (0, 10, 21, 15)]) List.mem_cons_self)
  subst hsz
  have hD := hD0.self (sz := s.heap.size)
  generalize hAe : va_A [(x, .inr (14, [.ref now, .ref fc]))] s.heap.size = A at hD hZ0 ⊢
  have hZ := hZ0
  have hA : ∀ q : Nat, s.heap.size ≤ q → A q := fun q h => by rw [← hAe]; exact Or.inr h
  have hS : va_S A s.heap s.heap [] := va_S.rf
  have hP : va_P (dC, dI) vwCl [(x, .inr (14, [.ref now, .ref fc]))] s.heap := hP
  have hl := lv_entry ([.ref x, .int k, .int b, .ref oA]) (n := 5) (Nat.le_of_ble_eq_true rfl)
  rw [lg_entry_eq]
  generalize (lg_sl ([.ref x, .int k, .int b, .ref oA]) ++ List.replicate (5 - (lg_sl ([.ref x, .int k, .int b, .ref oA])).length) Slot.unset).toArray = ls at hl ⊢
  have hl : lv_has ls 5 [(0, .ref x), (1, .int k), (2, .int b), (3, .ref oA)] := hl
  refine lv_aload_n hx hb dL_addDevice_0 rfl (lv_at hl 3 rfl) ?_
  refine lv_iconst (v := 0) hx hb dL_addDevice_1 (by decide) ?_
  refine lv_aload_n hx hb dL_addDevice_2 rfl (lv_at hl 0 rfl) ?_
  refine lv_iload_n hx hb dL_addDevice_3 rfl (lv_at hl 1 rfl) ?_
  refine lv_iload_n hx hb dL_addDevice_4 rfl (lv_at hl 2 rfl) ?_
  have hPc := hP.sub (ws' := []) [] rfl
  have hDc := hD.sub (ws' := []) [] (by decide) rfl
  have hKc := hK.sub (tys' := []) [] rfl
  have hFc := va_free (wc := []) hD hS hA [] rfl
  refine vx_calli (vx_runV (As := [.int k, .int b]) (rest := [.int 0, .ref oA]) ⟨hx, hb, hml, hown, hts⟩ (c_cx_addDevice_n l hst dC dI E x k b s.heap.size hk) (cwV 2 hts gL_addDevice_X8_addDevice rfl rfl rfl (by decide +kernel) ⟨(Nat.le_of_ble_eq_true rfl), (Nat.le_of_ble_eq_true rfl)⟩) ⟨pre_blind, va_recv hK hP (ci := 14) (q0 := 0) rfl rfl, pre_call hPc hDc hKc hFc hE hZ hS⟩ rfl rfl hl.1 rfl (lv_room (Nat.le_of_ble_eq_true rfl)) dL_addDevice_5 ⟨(Nat.le_of_ble_eq_true rfl), (Nat.le_of_ble_eq_true rfl)⟩) hS (fun q _ h => hFc q h) hFc (fun q _ h => hFc q h) (fun E9 ce q9 u t H1 locs1 ht hvm hw hB hz1 hk1 hS hc9 hv9 hf9 => ?_) (fun r u t H1 locs1 ht hvm hw hB hz1 hk1 hS => hw.elim)
  obtain rfl := hB
  refine vx_catch (name := "java/lang/IllegalArgumentException") hown [] ⟨0, 10, 13, 13⟩ [⟨0, 10, 17, 21⟩, ⟨0, 10, 21, 15⟩] htb (fun z hz => by cases hz) (by decide) (by decide) (hts (.classLink RL 13 "java/lang/IllegalArgumentException") (by decide +kernel)) (va_Nw.use rfl hE.2.2.1.2.1) hc9 hv9 hf9 ?_
  refine lv_astore (lv' := [(4, .ref q9), (0, .ref x), (1, .int k), (2, .int b), (3, .ref oA)]) hx hb dL_addDevice_13 hl (by decide) rfl (fun ls hl => ?_)
  refine lv_iconst (v := 1) hx hb dL_addDevice_15 (by decide) ?_
  refine vx_ret ?_
  refine W.widen (k := 1) (n := 6) (Nat.le_of_ble_eq_true rfl) (Nat.le_of_ble_eq_true rfl) ?_
  exact W.iret (v := 1) hx hb hr (fun t ht hW => ⟨⟨1, (), rfl, rfl, trivial⟩, hS.F ht⟩) hS.2.2 dL_addDevice_16

set_option maxHeartbeats 4000000 in
set_option maxRecDepth 100000 in
theorem c_w_setDevice (l : Launch) (hst : l.stackTraces = false) (dC : Nat → ClassId) (dI : Nat → Nat → Nat) (E : Nat → Nat) (x : Nat) (now : Nat) (fc : Nat) (ro : Nat) (hto : Nat) (de : Nat) (cr : Nat) (co : Nat) (sh : Nat) (eo : Nat) (v0 : Nat) (v1 : Nat) (v2 : Nat) (a : Int32) (b : Int32) (oA : Nat) (sz : Nat) : vx_Met l yL_setDevice wsL_setDevice ({ frames := 8, cells := 1, slots := 6, locals := 126 }) (va_Pc [.ref x, .int a, .int b, .ref oA] (pre dC dI E [(x, .inr (14, [.ref now, .ref fc])), (now, .inr (13, [.ref ro, .ref hto, .ref de, .ref cr, .ref co, .ref sh, .ref eo, .int 0, .int 0, .int 10, .int 100, .int 50, .int 0, .int 50])), (de, .inr (8, [.ref v0, .ref v1, .ref v2, .int 0, .int (-1)]))] [] sz)) (va_Qi (fun (r : Int32) (_ : Unit) => r = 1) (fun _ t => True) (va_A [(x, .inr (14, [.ref now, .ref fc])), (now, .inr (13, [.ref ro, .ref hto, .ref de, .ref cr, .ref co, .ref sh, .ref eo, .int 0, .int 0, .int 10, .int 100, .int 50, .int 0, .int 50])), (de, .inr (8, [.ref v0, .ref v1, .ref v2, .int 0, .int (-1)]))] sz)) (vx_X (fun _ : Unit => False) (fun _ _ _ => False) (va_A [(x, .inr (14, [.ref now, .ref fc])), (now, .inr (13, [.ref ro, .ref hto, .ref de, .ref cr, .ref co, .ref sh, .ref eo, .int 0, .int 0, .int 10, .int 100, .int 50, .int 0, .int 50])), (de, .inr (8, [.ref v0, .ref v1, .ref v2, .int 0, .int (-1)]))] sz)) 1 6 (va_A [(x, .inr (14, [.ref now, .ref fc])), (now, .inr (13, [.ref ro, .ref hto, .ref de, .ref cr, .ref co, .ref sh, .ref eo, .int 0, .int 0, .int 10, .int 100, .int 50, .int 0, .int 50])), (de, .inr (8, [.ref v0, .ref v1, .ref v2, .int 0, .int (-1)]))] sz) := by
  refine vx_ofWH (cc := cL_setDevice) (maxL := 5) (ret := (some .int)) (hh := [(0, 17, 20, 21), (0, 17, 24, 37)]) (by decide) rfl ?_
  intro p e s m args below meth c s₁ B hml hv
  obtain ⟨rfl, hsz, hP, hK, hD0, hE, hZ0⟩ := hv
  have hx := B.exec
  have hb := B.bytes
  have hr := B.returns
  have hts := atoms_spec (ws := wsL_setDevice) B.pre
  have hown : s.vm.findClass RL = some m.cls := findClass_of_methodNamed B.named
  have hlocks := B.notSynchronized
  have htb := vx_table (x := yL_setDevice) B (hts (.codeWith yL_setDevice cL_setDevice 5 (some .int) [(0, 17, 20, 21), (0, 17, 24, 37)]) List.mem_cons_self)
  subst hsz
  have hD := hD0.self (sz := s.heap.size)
  generalize hAe : va_A [(x, .inr (14, [.ref now, .ref fc])), (now, .inr (13, [.ref ro, .ref hto, .ref de, .ref cr, .ref co, .ref sh, .ref eo, .int 0, .int 0, .int 10, .int 100, .int 50, .int 0, .int 50])), (de, .inr (8, [.ref v0, .ref v1, .ref v2, .int 0, .int (-1)]))] s.heap.size = A at hD hZ0 ⊢
  have hZ := hZ0
  have hA : ∀ q : Nat, s.heap.size ≤ q → A q := fun q h => by rw [← hAe]; exact Or.inr h
  have hS : va_S A s.heap s.heap [] := va_S.rf
  have hP : va_P (dC, dI) vwCl [(x, .inr (14, [.ref now, .ref fc])), (now, .inr (13, [.ref ro, .ref hto, .ref de, .ref cr, .ref co, .ref sh, .ref eo, .int 0, .int 0, .int 10, .int 100, .int 50, .int 0, .int 50])), (de, .inr (8, [.ref v0, .ref v1, .ref v2, .int 0, .int (-1)]))] s.heap := hP
  have hl := lv_entry ([.ref x, .int a, .int b, .ref oA]) (n := 5) (Nat.le_of_ble_eq_true rfl)
  rw [lg_entry_eq]
  generalize (lg_sl ([.ref x, .int a, .int b, .ref oA]) ++ List.replicate (5 - (lg_sl ([.ref x, .int a, .int b, .ref oA])).length) Slot.unset).toArray = ls at hl ⊢
  have hl : lv_has ls 5 [(0, .ref x), (1, .int a), (2, .int b), (3, .ref oA)] := hl
  refine lv_aload_n hx hb dL_setDevice_0 rfl (lv_at hl 3 rfl) ?_
  refine lv_iconst (v := 0) hx hb dL_setDevice_1 (by decide) ?_
  refine lv_aload_n hx hb dL_setDevice_2 rfl (lv_at hl 0 rfl) ?_
  refine lv_iload_n hx hb dL_setDevice_3 rfl (lv_at hl 1 rfl) ?_
  refine lv_iload_n hx hb dL_setDevice_4 rfl (lv_at hl 2 rfl) ?_
  have hPc := hP.sub (ws' := [(x, .inr (14, [.ref now, .ref fc])), (now, .inr (13, [.ref ro, .ref hto, .ref de, .ref cr, .ref co, .ref sh, .ref eo, .int 0, .int 0, .int 10, .int 100, .int 50, .int 0, .int 50])), (de, .inr (8, [.ref v0, .ref v1, .ref v2, .int 0, .int (-1)]))]) [0, 1, 2] rfl
  have hDc := hD.sub (ws' := [(x, .inr (14, [.ref now, .ref fc])), (now, .inr (13, [.ref ro, .ref hto, .ref de, .ref cr, .ref co, .ref sh, .ref eo, .int 0, .int 0, .int 10, .int 100, .int 50, .int 0, .int 50])), (de, .inr (8, [.ref v0, .ref v1, .ref v2, .int 0, .int (-1)]))]) [0, 1, 2] (by decide) rfl
  have hKc := hK.sub (tys' := []) [] rfl
  have hFc := va_free (wc := [(x, .inr (14, [.ref now, .ref fc])), (now, .inr (13, [.ref ro, .ref hto, .ref de, .ref cr, .ref co, .ref sh, .ref eo, .int 0, .int 0, .int 10, .int 100, .int 50, .int 0, .int 50])), (de, .inr (8, [.ref v0, .ref v1, .ref v2, .int 0, .int (-1)]))]) hD hS hA [0, 1, 2] rfl
  refine vx_calli (vx_runV (As := [.int a, .int b]) (rest := [.int 0, .ref oA]) ⟨hx, hb, hml, hown, hts⟩ (c_cx_setDevice l hst dC dI E x now fc ro hto de cr co sh eo v0 v1 v2 a b s.heap.size) (cwV 2 hts gL_setDevice_X8_setDevice rfl rfl rfl (by decide +kernel) ⟨(Nat.le_of_ble_eq_true rfl), (Nat.le_of_ble_eq_true rfl)⟩) ⟨pre_blind, va_recv hKc hPc (ci := 14) (q0 := 0) rfl rfl, pre_call hPc hDc hKc hFc hE hZ hS⟩ rfl rfl hl.1 rfl (lv_room (Nat.le_of_ble_eq_true rfl)) dL_setDevice_5 ⟨(Nat.le_of_ble_eq_true rfl), (Nat.le_of_ble_eq_true rfl)⟩) hS (fun q _ h => hFc q h) hFc (fun q _ h => hFc q h) (fun E9 ce q9 u t H1 locs1 ht hvm hw hB hz1 hk1 hS hc9 hv9 hf9 => ?_) (fun r u t H1 locs1 ht hvm hw hB hz1 hk1 hS => hw.elim)
  obtain rfl := hB
  refine vx_catch (name := "java/lang/IndexOutOfBoundsException") hown [] ⟨0, 17, 20, 21⟩ [⟨0, 17, 24, 37⟩] htb (fun z hz => by cases hz) (by decide) (by decide) (hts (.classLink RL 21 "java/lang/IndexOutOfBoundsException") (by decide +kernel)) (va_Nw.use rfl hE.2.2.1.2.2.1) hc9 hv9 hf9 ?_
  refine lv_astore (lv' := [(4, .ref q9), (0, .ref x), (1, .int a), (2, .int b), (3, .ref oA)]) hx hb dL_setDevice_20 hl (by decide) rfl (fun ls hl => ?_)
  refine lv_iconst (v := 1) hx hb dL_setDevice_22 (by decide) ?_
  refine vx_ret ?_
  refine W.widen (k := 1) (n := 6) (Nat.le_of_ble_eq_true rfl) (Nat.le_of_ble_eq_true rfl) ?_
  exact W.iret (v := 1) hx hb hr (fun t ht hW => ⟨⟨1, (), rfl, rfl, trivial⟩, hS.F ht⟩) hS.2.2 dL_setDevice_23

set_option maxHeartbeats 4000000 in
set_option maxRecDepth 100000 in
theorem c_w_setPanels_n (l : Launch) (hst : l.stackTraces = false) (dC : Nat → ClassId) (dI : Nat → Nat → Nat) (E : Nat → Nat) (x : Nat) (a : Int32) (oA : Nat) (now : Nat) (fc : Nat) (sz : Nat) (h : ¬ (¬ a < 0 ∧ ¬ 40 < a)) : vx_Met l yL_setPanels wsL_setPanels ({ frames := 8, cells := 1, slots := 6, locals := 126 }) (va_Pc [.ref x, .int a, .ref oA] (pre dC dI E [(x, .inr (14, [.ref now, .ref fc]))] [] sz)) (va_Qi (fun (r : Int32) (_ : Unit) => r = 1) (fun _ t => True) (va_A [(x, .inr (14, [.ref now, .ref fc]))] sz)) (vx_X (fun _ : Unit => False) (fun _ _ _ => False) (va_A [(x, .inr (14, [.ref now, .ref fc]))] sz)) 1 6 (va_A [(x, .inr (14, [.ref now, .ref fc]))] sz) := by
  refine vx_ofWH (cc := cL_setPanels) (maxL := 4) (ret := (some .int)) (hh := [(0, 9, 12, 13)]) (by decide) rfl ?_
  intro p e s m args below meth c s₁ B hml hv
  obtain ⟨rfl, hsz, hP, hK, hD0, hE, hZ0⟩ := hv
  have hx := B.exec
  have hb := B.bytes
  have hr := B.returns
  have hts := atoms_spec (ws := wsL_setPanels) B.pre
  have hown : s.vm.findClass RL = some m.cls := findClass_of_methodNamed B.named
  have hlocks := B.notSynchronized
  have htb := vx_table (x := yL_setPanels) B (hts (.codeWith yL_setPanels cL_setPanels 4 (some .int) [(0, 9, 12, 13)]) List.mem_cons_self)
  subst hsz
  have hD := hD0.self (sz := s.heap.size)
  generalize hAe : va_A [(x, .inr (14, [.ref now, .ref fc]))] s.heap.size = A at hD hZ0 ⊢
  have hZ := hZ0
  have hA : ∀ q : Nat, s.heap.size ≤ q → A q := fun q h => by rw [← hAe]; exact Or.inr h
  have hS : va_S A s.heap s.heap [] := va_S.rf
  have hP : va_P (dC, dI) vwCl [(x, .inr (14, [.ref now, .ref fc]))] s.heap := hP
  have hl := lv_entry ([.ref x, .int a, .ref oA]) (n := 4) (Nat.le_of_ble_eq_true rfl)
  rw [lg_entry_eq]
  generalize (lg_sl ([.ref x, .int a, .ref oA]) ++ List.replicate (4 - (lg_sl ([.ref x, .int a, .ref oA])).length) Slot.unset).toArray = ls at hl ⊢
  have hl : lv_has ls 4 [(0, .ref x), (1, .int a), (2, .ref oA)] := hl
  refine lv_aload_n hx hb dL_setPanels_0 rfl (lv_at hl 2 rfl) ?_
  refine lv_iconst (v := 0) hx hb dL_setPanels_1 (by decide) ?_
  refine lv_aload_n hx hb dL_setPanels_2 rfl (lv_at hl 0 rfl) ?_
  refine lv_iload_n hx hb dL_setPanels_3 rfl (lv_at hl 1 rfl) ?_
  have hPc := hP.sub (ws' := []) [] rfl
  have hDc := hD.sub (ws' := []) [] (by decide) rfl
  have hKc := hK.sub (tys' := []) [] rfl
  have hFc := va_free (wc := []) hD hS hA [] rfl
  refine vx_calli (vx_runV (As := [.int a]) (rest := [.int 0, .ref oA]) ⟨hx, hb, hml, hown, hts⟩ (c_cx_setPanels_n l hst dC dI E x a s.heap.size h) (cwV 1 hts gL_setPanels_X8_setPanels rfl rfl rfl (by decide +kernel) ⟨(Nat.le_of_ble_eq_true rfl), (Nat.le_of_ble_eq_true rfl)⟩) ⟨pre_blind, va_recv hK hP (ci := 14) (q0 := 0) rfl rfl, pre_call hPc hDc hKc hFc hE hZ hS⟩ rfl rfl hl.1 rfl (lv_room (Nat.le_of_ble_eq_true rfl)) dL_setPanels_4 ⟨(Nat.le_of_ble_eq_true rfl), (Nat.le_of_ble_eq_true rfl)⟩) hS (fun q _ h => hFc q h) hFc (fun q _ h => hFc q h) (fun E9 ce q9 u t H1 locs1 ht hvm hw hB hz1 hk1 hS hc9 hv9 hf9 => ?_) (fun r u t H1 locs1 ht hvm hw hB hz1 hk1 hS => hw.elim)
  obtain rfl := hB
  refine vx_catch (name := "java/lang/IllegalArgumentException") hown [] ⟨0, 9, 12, 13⟩ [] htb (fun z hz => by cases hz) (by decide) (by decide) (hts (.classLink RL 13 "java/lang/IllegalArgumentException") (by decide +kernel)) (va_Nw.use rfl hE.2.2.1.2.1) hc9 hv9 hf9 ?_
  refine lv_astore_n (lv' := [(3, .ref q9), (0, .ref x), (1, .int a), (2, .ref oA)]) hx hb dL_setPanels_12 rfl hl (by decide) rfl (fun ls hl => ?_)
  refine lv_iconst (v := 1) hx hb dL_setPanels_13 (by decide) ?_
  refine vx_ret ?_
  refine W.widen (k := 1) (n := 6) (Nat.le_of_ble_eq_true rfl) (Nat.le_of_ble_eq_true rfl) ?_
  exact W.iret (v := 1) hx hb hr (fun t ht hW => ⟨⟨1, (), rfl, rfl, trivial⟩, hS.F ht⟩) hS.2.2 dL_setPanels_14

set_option maxHeartbeats 4000000 in
set_option maxRecDepth 100000 in
theorem c_w_setPanels_y (l : Launch) (dC : Nat → ClassId) (dI : Nat → Nat → Nat) (E : Nat → Nat) (x : Nat) (now : Nat) (fc : Nat) (ro : Nat) (hto : Nat) (de : Nat) (cr : Nat) (co : Nat) (sh : Nat) (eo : Nat) (a : Int32) (oA : Nat) (cJ : ClassId) (fj : Nat → Int64) (sz : Nat) (hla : ¬ a < 0) (hua : ¬ 40 < a) : vx_Met l yL_setPanels wsL_setPanels ({ frames := 2, cells := 0, slots := 0, locals := 44 }) (va_Pc [.ref x, .int a, .ref oA] (pre dC dI E [(x, .inr (14, [.ref now, .ref fc])), (now, .inr (13, [.ref ro, .ref hto, .ref de, .ref cr, .ref co, .ref sh, .ref eo, .int 0, .int 0, .int 10, .int 100, .int 50, .int 0, .int 50])), (oA, .inl (cJ, 1, .inr (.inl fj)))] [(cJ, .long)] sz)) (va_Qi (fun (r : Int32) (_ : Unit) => r = 0) (fun _ t => ∃ g : Nat → Int64, g 0 = 10 ∧ pst dC dI (va_A [(x, .inr (14, [.ref now, .ref fc])), (now, .inr (13, [.ref ro, .ref hto, .ref de, .ref cr, .ref co, .ref sh, .ref eo, .int 0, .int 0, .int 10, .int 100, .int 50, .int 0, .int 50])), (oA, .inl (cJ, 1, .inr (.inl fj)))] sz) [(oA, .inl (cJ, 1, .inr (.inl g)))] [(cJ, .long)] t) (va_A [(x, .inr (14, [.ref now, .ref fc])), (now, .inr (13, [.ref ro, .ref hto, .ref de, .ref cr, .ref co, .ref sh, .ref eo, .int 0, .int 0, .int 10, .int 100, .int 50, .int 0, .int 50])), (oA, .inl (cJ, 1, .inr (.inl fj)))] sz)) (vx_X (fun _ : Unit => False) (fun _ _ _ => False) (va_A [(x, .inr (14, [.ref now, .ref fc])), (now, .inr (13, [.ref ro, .ref hto, .ref de, .ref cr, .ref co, .ref sh, .ref eo, .int 0, .int 0, .int 10, .int 100, .int 50, .int 0, .int 50])), (oA, .inl (cJ, 1, .inr (.inl fj)))] sz)) 0 0 (va_A [(x, .inr (14, [.ref now, .ref fc])), (now, .inr (13, [.ref ro, .ref hto, .ref de, .ref cr, .ref co, .ref sh, .ref eo, .int 0, .int 0, .int 10, .int 100, .int 50, .int 0, .int 50])), (oA, .inl (cJ, 1, .inr (.inl fj)))] sz) := by
  refine vx_ofWH (cc := cL_setPanels) (maxL := 4) (ret := (some .int)) (hh := [(0, 9, 12, 13)]) (by decide) rfl ?_
  intro p e s m args below meth c s₁ B hml hv
  obtain ⟨rfl, hsz, hP, hK, hD0, hE, hZ0⟩ := hv
  have hx := B.exec
  have hb := B.bytes
  have hr := B.returns
  have hts := atoms_spec (ws := wsL_setPanels) B.pre
  have hown : s.vm.findClass RL = some m.cls := findClass_of_methodNamed B.named
  have hlocks := B.notSynchronized
  have htb := vx_table (x := yL_setPanels) B (hts (.codeWith yL_setPanels cL_setPanels 4 (some .int) [(0, 9, 12, 13)]) List.mem_cons_self)
  subst hsz
  have hD := hD0.self (sz := s.heap.size)
  generalize hAe : va_A [(x, .inr (14, [.ref now, .ref fc])), (now, .inr (13, [.ref ro, .ref hto, .ref de, .ref cr, .ref co, .ref sh, .ref eo, .int 0, .int 0, .int 10, .int 100, .int 50, .int 0, .int 50])), (oA, .inl (cJ, 1, .inr (.inl fj)))] s.heap.size = A at hD hZ0 ⊢
  have hZ := hZ0
  have hA : ∀ q : Nat, s.heap.size ≤ q → A q := fun q h => by rw [← hAe]; exact Or.inr h
  have hS : va_S A s.heap s.heap [] := va_S.rf
  have hP : va_P (dC, dI) vwCl [(x, .inr (14, [.ref now, .ref fc])), (now, .inr (13, [.ref ro, .ref hto, .ref de, .ref cr, .ref co, .ref sh, .ref eo, .int 0, .int 0, .int 10, .int 100, .int 50, .int 0, .int 50])), (oA, .inl (cJ, 1, .inr (.inl fj)))] s.heap := hP
  have hl := lv_entry ([.ref x, .int a, .ref oA]) (n := 4) (Nat.le_of_ble_eq_true rfl)
  rw [lg_entry_eq]
  generalize (lg_sl ([.ref x, .int a, .ref oA]) ++ List.replicate (4 - (lg_sl ([.ref x, .int a, .ref oA])).length) Slot.unset).toArray = ls at hl ⊢
  have hl : lv_has ls 4 [(0, .ref x), (1, .int a), (2, .ref oA)] := hl
  refine lv_aload_n hx hb dL_setPanels_0 rfl (lv_at hl 2 rfl) ?_
  refine lv_iconst (v := 0) hx hb dL_setPanels_1 (by decide) ?_
  refine lv_aload_n hx hb dL_setPanels_2 rfl (lv_at hl 0 rfl) ?_
  refine lv_iload_n hx hb dL_setPanels_3 rfl (lv_at hl 1 rfl) ?_
  have hPc := hP.sub (ws' := [(x, .inr (14, [.ref now, .ref fc])), (now, .inr (13, [.ref ro, .ref hto, .ref de, .ref cr, .ref co, .ref sh, .ref eo, .int 0, .int 0, .int 10, .int 100, .int 50, .int 0, .int 50]))]) [0, 1] rfl
  have hDc := hD.sub (ws' := [(x, .inr (14, [.ref now, .ref fc])), (now, .inr (13, [.ref ro, .ref hto, .ref de, .ref cr, .ref co, .ref sh, .ref eo, .int 0, .int 0, .int 10, .int 100, .int 50, .int 0, .int 50]))]) [0, 1] (by decide) rfl
  have hKc := hK.sub (tys' := []) [] rfl
  have hFc := va_free (wc := [(x, .inr (14, [.ref now, .ref fc])), (now, .inr (13, [.ref ro, .ref hto, .ref de, .ref cr, .ref co, .ref sh, .ref eo, .int 0, .int 0, .int 10, .int 100, .int 50, .int 0, .int 50]))]) hD hS hA [0, 1] rfl
  refine va_calli (va_runV (As := [.int a]) (rest := [.int 0, .ref oA]) ⟨hx, hb, hml, hown, hts⟩ (c_cx_setPanels_y l dC dI E x now fc ro hto de cr co sh eo a s.heap.size hla hua) (cwV 1 hts gL_setPanels_X8_setPanels rfl rfl rfl (by decide +kernel) ⟨(Nat.le_of_ble_eq_true rfl), (Nat.le_of_ble_eq_true rfl)⟩) ⟨pre_blind, va_recv hKc hPc (ci := 14) (q0 := 0) rfl rfl, pre_call hPc hDc hKc hFc hE hZ hS⟩ rfl rfl hl.1 rfl (lv_room (Nat.le_of_ble_eq_true rfl)) dL_setPanels_4 ⟨(Nat.le_of_ble_eq_true rfl), (Nat.le_of_ble_eq_true rfl)⟩) hS (fun q _ h => hFc q h) hFc (fun r u t H1 locs1 ht hvm hw hB hz1 hk1 hS => ?_)
  have hw9 : r = 10 := hw
  rw [hw9]
  obtain ⟨hP, hD, hK⟩ := pst_drop (wc := [(x, .inr (14, [.ref now, .ref fc])), (now, .inr (13, [.ref ro, .ref hto, .ref de, .ref cr, .ref co, .ref sh, .ref eo, .int 0, .int 0, .int 10, .int 100, .int 50, .int 0, .int 50]))]) (wr := [(oA, .inl (cJ, 1, .inr (.inl fj)))]) (tr := [(cJ, .long)]) hP hD hK [0, 1] [2] [0] rfl rfl rfl (by decide) (by decide) hk1 hFc
  generalize H1 = H at hP hS ⊢
  have hP : va_P (dC, dI) vwCl [(oA, .inl (cJ, 1, .inr (.inl fj)))] H := hP
  have hD : va_D A [(oA, .inl (cJ, 1, .inr (.inl fj)))] := hD
  have hK : va_K (dC, dI) vwCl [(cJ, .long)] s := hK
  refine W.widen (k := 0) (n := 0) (Nat.le_of_ble_eq_true rfl) (Nat.le_of_ble_eq_true rfl) ?_
  refine lv_i2l (v := 10) hx hb dL_setPanels_7 (by decide) ?_
  refine va_last hx hb hK hP hD hS 0 0 rfl rfl (by unfold vp_in; decide) dL_setPanels_8 (fun H locs hP hD hS => ?_)
  have hP : va_P (dC, dI) vwCl [(oA, .inl (cJ, 1, .inr (.inl (vp_updL fj (0 : Int32).toNatClampNeg 10))))] H := hP
  have hD : va_D A [(oA, .inl (cJ, 1, .inr (.inl (vp_updL fj (0 : Int32).toNatClampNeg 10))))] := hD
  obtain ⟨f_3, ef_3⟩ : ∃ y : Nat → Int64, y = vp_updL fj (0 : Int32).toNatClampNeg 10 := ⟨_, rfl⟩
  rw [← ef_3] at hP hD
  have hP : va_P (dC, dI) vwCl [(oA, .inl (cJ, 1, .inr (.inl f_3)))] H := hP
  have hD : va_D A [(oA, .inl (cJ, 1, .inr (.inl f_3)))] := hD
  refine lv_goto (tgt := 15) hx hb dL_setPanels_9 (by decide) ?_
  refine lv_iconst (v := 0) hx hb dL_setPanels_15 (by decide) ?_
  have hP9 := hP.sub (ws' := [(oA, .inl (cJ, 1, .inr (.inl f_3)))]) [0] rfl
  have hD9 := hD.sub (ws' := [(oA, .inl (cJ, 1, .inr (.inl f_3)))]) [0] (by decide) rfl
  have hK9 := hK.sub (tys' := [(cJ, .long)]) [0] rfl
  refine vx_ret ?_
  refine W.widen (k := 0) (n := 0) (Nat.le_of_ble_eq_true rfl) (Nat.le_of_ble_eq_true rfl) ?_
  exact W.iret (v := 0) hx hb hr (fun t ht hW => ⟨⟨0, (), rfl, rfl, ⟨f_3, (by rw [ef_3]; exact if_pos (by decide)), pst_of hP9 hD9 hK9 ht hW⟩⟩, hS.F ht⟩) hS.2.2 dL_setPanels_16

set_option maxHeartbeats 4000000 in
set_option maxRecDepth 100000 in
theorem c_w_board (l : Launch) (hst : l.stackTraces = false) (dC : Nat → ClassId) (dI : Nat → Nat → Nat) (E : Nat → Nat) (x : Nat) (now : Nat) (fc : Nat) (ro : Nat) (hto : Nat) (de : Nat) (cr : Nat) (co : Nat) (sh : Nat) (eo : Nat) (a0 : Nat) (a1 : Nat) (a2 : Nat) (a : Int32) (oA : Nat) (sz : Nat) : vx_Met l yL_board wsL_board ({ frames := 9, cells := 1, slots := 6, locals := 145 }) (va_Pc [.ref x, .int a, .ref oA] (pre dC dI E [(x, .inr (14, [.ref now, .ref fc])), (now, .inr (13, [.ref ro, .ref hto, .ref de, .ref cr, .ref co, .ref sh, .ref eo, .int 0, .int 0, .int 10, .int 100, .int 50, .int 0, .int 50])), (ro, .inr (11, [.ref a0, .ref a1, .ref a2, .int 0, .int 0]))] [] sz)) (va_Qi (fun (r : Int32) (_ : Unit) => r = 1) (fun _ t => True) (va_A [(x, .inr (14, [.ref now, .ref fc])), (now, .inr (13, [.ref ro, .ref hto, .ref de, .ref cr, .ref co, .ref sh, .ref eo, .int 0, .int 0, .int 10, .int 100, .int 50, .int 0, .int 50])), (ro, .inr (11, [.ref a0, .ref a1, .ref a2, .int 0, .int 0]))] sz)) (vx_X (fun _ : Unit => False) (fun _ _ _ => False) (va_A [(x, .inr (14, [.ref now, .ref fc])), (now, .inr (13, [.ref ro, .ref hto, .ref de, .ref cr, .ref co, .ref sh, .ref eo, .int 0, .int 0, .int 10, .int 100, .int 50, .int 0, .int 50])), (ro, .inr (11, [.ref a0, .ref a1, .ref a2, .int 0, .int 0]))] sz)) 1 6 (va_A [(x, .inr (14, [.ref now, .ref fc])), (now, .inr (13, [.ref ro, .ref hto, .ref de, .ref cr, .ref co, .ref sh, .ref eo, .int 0, .int 0, .int 10, .int 100, .int 50, .int 0, .int 50])), (ro, .inr (11, [.ref a0, .ref a1, .ref a2, .int 0, .int 0]))] sz) := by
  refine vx_ofWH (cc := cL_board) (maxL := 4) (ret := (some .int)) (hh := [(0, 9, 12, 21), (0, 9, 15, 15)]) (by decide) rfl ?_
  intro p e s m args below meth c s₁ B hml hv
  obtain ⟨rfl, hsz, hP, hK, hD0, hE, hZ0⟩ := hv
  have hx := B.exec
  have hb := B.bytes
  have hr := B.returns
  have hts := atoms_spec (ws := wsL_board) B.pre
  have hown : s.vm.findClass RL = some m.cls := findClass_of_methodNamed B.named
  have hlocks := B.notSynchronized
  have htb := vx_table (x := yL_board) B (hts (.codeWith yL_board cL_board 4 (some .int) [(0, 9, 12, 21), (0, 9, 15, 15)]) List.mem_cons_self)
  subst hsz
  have hD := hD0.self (sz := s.heap.size)
  generalize hAe : va_A [(x, .inr (14, [.ref now, .ref fc])), (now, .inr (13, [.ref ro, .ref hto, .ref de, .ref cr, .ref co, .ref sh, .ref eo, .int 0, .int 0, .int 10, .int 100, .int 50, .int 0, .int 50])), (ro, .inr (11, [.ref a0, .ref a1, .ref a2, .int 0, .int 0]))] s.heap.size = A at hD hZ0 ⊢
  have hZ := hZ0
  have hA : ∀ q : Nat, s.heap.size ≤ q → A q := fun q h => by rw [← hAe]; exact Or.inr h
  have hS : va_S A s.heap s.heap [] := va_S.rf
  have hP : va_P (dC, dI) vwCl [(x, .inr (14, [.ref now, .ref fc])), (now, .inr (13, [.ref ro, .ref hto, .ref de, .ref cr, .ref co, .ref sh, .ref eo, .int 0, .int 0, .int 10, .int 100, .int 50, .int 0, .int 50])), (ro, .inr (11, [.ref a0, .ref a1, .ref a2, .int 0, .int 0]))] s.heap := hP
  have hl := lv_entry ([.ref x, .int a, .ref oA]) (n := 4) (Nat.le_of_ble_eq_true rfl)
  rw [lg_entry_eq]
  generalize (lg_sl ([.ref x, .int a, .ref oA]) ++ List.replicate (4 - (lg_sl ([.ref x, .int a, .ref oA])).length) Slot.unset).toArray = ls at hl ⊢
  have hl : lv_has ls 4 [(0, .ref x), (1, .int a), (2, .ref oA)] := hl
  refine lv_aload_n hx hb dL_board_0 rfl (lv_at hl 2 rfl) ?_
  refine lv_iconst (v := 0) hx hb dL_board_1 (by decide) ?_
  refine lv_aload_n hx hb dL_board_2 rfl (lv_at hl 0 rfl) ?_
  refine lv_iload_n hx hb dL_board_3 rfl (lv_at hl 1 rfl) ?_
  have hPc := hP.sub (ws' := [(x, .inr (14, [.ref now, .ref fc])), (now, .inr (13, [.ref ro, .ref hto, .ref de, .ref cr, .ref co, .ref sh, .ref eo, .int 0, .int 0, .int 10, .int 100, .int 50, .int 0, .int 50])), (ro, .inr (11, [.ref a0, .ref a1, .ref a2, .int 0, .int 0]))]) [0, 1, 2] rfl
  have hDc := hD.sub (ws' := [(x, .inr (14, [.ref now, .ref fc])), (now, .inr (13, [.ref ro, .ref hto, .ref de, .ref cr, .ref co, .ref sh, .ref eo, .int 0, .int 0, .int 10, .int 100, .int 50, .int 0, .int 50])), (ro, .inr (11, [.ref a0, .ref a1, .ref a2, .int 0, .int 0]))]) [0, 1, 2] (by decide) rfl
  have hKc := hK.sub (tys' := []) [] rfl
  have hFc := va_free (wc := [(x, .inr (14, [.ref now, .ref fc])), (now, .inr (13, [.ref ro, .ref hto, .ref de, .ref cr, .ref co, .ref sh, .ref eo, .int 0, .int 0, .int 10, .int 100, .int 50, .int 0, .int 50])), (ro, .inr (11, [.ref a0, .ref a1, .ref a2, .int 0, .int 0]))]) hD hS hA [0, 1, 2] rfl
  refine vx_calli (vx_runV (As := [.int a]) (rest := [.int 0, .ref oA]) ⟨hx, hb, hml, hown, hts⟩ (c_cx_board l hst dC dI E x now fc ro hto de cr co sh eo a0 a1 a2 a s.heap.size) (cwV 1 hts gL_board_X8_board rfl rfl rfl (by decide +kernel) ⟨(Nat.le_of_ble_eq_true rfl), (Nat.le_of_ble_eq_true rfl)⟩) ⟨pre_blind, va_recv hKc hPc (ci := 14) (q0 := 0) rfl rfl, pre_call hPc hDc hKc hFc hE hZ hS⟩ rfl rfl hl.1 rfl (lv_room (Nat.le_of_ble_eq_true rfl)) dL_board_4 ⟨(Nat.le_of_ble_eq_true rfl), (Nat.le_of_ble_eq_true rfl)⟩) hS (fun q _ h => hFc q h) hFc (fun q _ h => hFc q h) (fun E9 ce q9 u t H1 locs1 ht hvm hw hB hz1 hk1 hS hc9 hv9 hf9 => ?_) (fun r u t H1 locs1 ht hvm hw hB hz1 hk1 hS => hw.elim)
  obtain rfl := hB
  refine vx_catch (name := "java/lang/IndexOutOfBoundsException") hown [] ⟨0, 9, 12, 21⟩ [⟨0, 9, 15, 15⟩] htb (fun z hz => by cases hz) (by decide) (by decide) (hts (.classLink RL 21 "java/lang/IndexOutOfBoundsException") (by decide +kernel)) (va_Nw.use rfl hE.2.2.1.2.2.1) hc9 hv9 hf9 ?_
  refine lv_astore_n (lv' := [(3, .ref q9), (0, .ref x), (1, .int a), (2, .ref oA)]) hx hb dL_board_12 rfl hl (by decide) rfl (fun ls hl => ?_)
  refine lv_iconst (v := 1) hx hb dL_board_13 (by decide) ?_
  refine vx_ret ?_
  refine W.widen (k := 1) (n := 6) (Nat.le_of_ble_eq_true rfl) (Nat.le_of_ble_eq_true rfl) ?_
  exact W.iret (v := 1) hx hb hr (fun t ht hW => ⟨⟨1, (), rfl, rfl, trivial⟩, hS.F ht⟩) hS.2.2 dL_board_14

set_option maxHeartbeats 4000000 in
set_option maxRecDepth 100000 in
theorem c_w_move (l : Launch) (hst : l.stackTraces = false) (dC : Nat → ClassId) (dI : Nat → Nat → Nat) (E : Nat → Nat) (x : Nat) (now : Nat) (fc : Nat) (ro : Nat) (hto : Nat) (de : Nat) (cr : Nat) (co : Nat) (sh : Nat) (eo : Nat) (w0 : Nat) (w1 : Nat) (w2 : Nat) (w3 : Nat) (a : Int32) (b : Int32) (oA : Nat) (sz : Nat) : vx_Met l yL_move wsL_move ({ frames := 8, cells := 1, slots := 6, locals := 126 }) (va_Pc [.ref x, .int a, .int b, .ref oA] (pre dC dI E [(x, .inr (14, [.ref now, .ref fc])), (now, .inr (13, [.ref ro, .ref hto, .ref de, .ref cr, .ref co, .ref sh, .ref eo, .int 0, .int 0, .int 10, .int 100, .int 50, .int 0, .int 50])), (cr, .inr (7, [.ref w0, .ref w1, .ref w2, .ref w3, .int 0, .int 0]))] [] sz)) (va_Qi (fun (r : Int32) (_ : Unit) => r = 1) (fun _ t => True) (va_A [(x, .inr (14, [.ref now, .ref fc])), (now, .inr (13, [.ref ro, .ref hto, .ref de, .ref cr, .ref co, .ref sh, .ref eo, .int 0, .int 0, .int 10, .int 100, .int 50, .int 0, .int 50])), (cr, .inr (7, [.ref w0, .ref w1, .ref w2, .ref w3, .int 0, .int 0]))] sz)) (vx_X (fun _ : Unit => False) (fun _ _ _ => False) (va_A [(x, .inr (14, [.ref now, .ref fc])), (now, .inr (13, [.ref ro, .ref hto, .ref de, .ref cr, .ref co, .ref sh, .ref eo, .int 0, .int 0, .int 10, .int 100, .int 50, .int 0, .int 50])), (cr, .inr (7, [.ref w0, .ref w1, .ref w2, .ref w3, .int 0, .int 0]))] sz)) 1 6 (va_A [(x, .inr (14, [.ref now, .ref fc])), (now, .inr (13, [.ref ro, .ref hto, .ref de, .ref cr, .ref co, .ref sh, .ref eo, .int 0, .int 0, .int 10, .int 100, .int 50, .int 0, .int 50])), (cr, .inr (7, [.ref w0, .ref w1, .ref w2, .ref w3, .int 0, .int 0]))] sz) := by
  refine vx_ofWH (cc := cL_move) (maxL := 5) (ret := (some .int)) (hh := [(0, 10, 13, 21), (0, 10, 17, 15), (0, 10, 21, 37)]) (by decide) rfl ?_
  intro p e s m args below meth c s₁ B hml hv
  obtain ⟨rfl, hsz, hP, hK, hD0, hE, hZ0⟩ := hv
  have hx := B.exec
  have hb := B.bytes
  have hr := B.returns
  have hts := atoms_spec (ws := wsL_move) B.pre
  have hown : s.vm.findClass RL = some m.cls := findClass_of_methodNamed B.named
  have hlocks := B.notSynchronized
  have htb := vx_table (x := yL_move) B (hts (.codeWith yL_move cL_move 5 (some .int) [(0, 10, 13, 21), (0, 10, 17, 15), (0, 10, 21, 37)]) List.mem_cons_self)
  subst hsz
  have hD := hD0.self (sz := s.heap.size)
  generalize hAe : va_A [(x, .inr (14, [.ref now, .ref fc])), (now, .inr (13, [.ref ro, .ref hto, .ref de, .ref cr, .ref co, .ref sh, .ref eo, .int 0, .int 0, .int 10, .int 100, .int 50, .int 0, .int 50])), (cr, .inr (7, [.ref w0, .ref w1, .ref w2, .ref w3, .int 0, .int 0]))] s.heap.size = A at hD hZ0 ⊢
  have hZ := hZ0
  have hA : ∀ q : Nat, s.heap.size ≤ q → A q := fun q h => by rw [← hAe]; exact Or.inr h
  have hS : va_S A s.heap s.heap [] := va_S.rf
  have hP : va_P (dC, dI) vwCl [(x, .inr (14, [.ref now, .ref fc])), (now, .inr (13, [.ref ro, .ref hto, .ref de, .ref cr, .ref co, .ref sh, .ref eo, .int 0, .int 0, .int 10, .int 100, .int 50, .int 0, .int 50])), (cr, .inr (7, [.ref w0, .ref w1, .ref w2, .ref w3, .int 0, .int 0]))] s.heap := hP
  have hl := lv_entry ([.ref x, .int a, .int b, .ref oA]) (n := 5) (Nat.le_of_ble_eq_true rfl)
  rw [lg_entry_eq]
  generalize (lg_sl ([.ref x, .int a, .int b, .ref oA]) ++ List.replicate (5 - (lg_sl ([.ref x, .int a, .int b, .ref oA])).length) Slot.unset).toArray = ls at hl ⊢
  have hl : lv_has ls 5 [(0, .ref x), (1, .int a), (2, .int b), (3, .ref oA)] := hl
  refine lv_aload_n hx hb dL_move_0 rfl (lv_at hl 3 rfl) ?_
  refine lv_iconst (v := 0) hx hb dL_move_1 (by decide) ?_
  refine lv_aload_n hx hb dL_move_2 rfl (lv_at hl 0 rfl) ?_
  refine lv_iload_n hx hb dL_move_3 rfl (lv_at hl 1 rfl) ?_
  refine lv_iload_n hx hb dL_move_4 rfl (lv_at hl 2 rfl) ?_
  have hPc := hP.sub (ws' := [(x, .inr (14, [.ref now, .ref fc])), (now, .inr (13, [.ref ro, .ref hto, .ref de, .ref cr, .ref co, .ref sh, .ref eo, .int 0, .int 0, .int 10, .int 100, .int 50, .int 0, .int 50])), (cr, .inr (7, [.ref w0, .ref w1, .ref w2, .ref w3, .int 0, .int 0]))]) [0, 1, 2] rfl
  have hDc := hD.sub (ws' := [(x, .inr (14, [.ref now, .ref fc])), (now, .inr (13, [.ref ro, .ref hto, .ref de, .ref cr, .ref co, .ref sh, .ref eo, .int 0, .int 0, .int 10, .int 100, .int 50, .int 0, .int 50])), (cr, .inr (7, [.ref w0, .ref w1, .ref w2, .ref w3, .int 0, .int 0]))]) [0, 1, 2] (by decide) rfl
  have hKc := hK.sub (tys' := []) [] rfl
  have hFc := va_free (wc := [(x, .inr (14, [.ref now, .ref fc])), (now, .inr (13, [.ref ro, .ref hto, .ref de, .ref cr, .ref co, .ref sh, .ref eo, .int 0, .int 0, .int 10, .int 100, .int 50, .int 0, .int 50])), (cr, .inr (7, [.ref w0, .ref w1, .ref w2, .ref w3, .int 0, .int 0]))]) hD hS hA [0, 1, 2] rfl
  refine vx_calli (vx_runV (As := [.int a, .int b]) (rest := [.int 0, .ref oA]) ⟨hx, hb, hml, hown, hts⟩ (c_cx_move l hst dC dI E x now fc ro hto de cr co sh eo w0 w1 w2 w3 a b s.heap.size) (cwV 2 hts gL_move_X8_move rfl rfl rfl (by decide +kernel) ⟨(Nat.le_of_ble_eq_true rfl), (Nat.le_of_ble_eq_true rfl)⟩) ⟨pre_blind, va_recv hKc hPc (ci := 14) (q0 := 0) rfl rfl, pre_call hPc hDc hKc hFc hE hZ hS⟩ rfl rfl hl.1 rfl (lv_room (Nat.le_of_ble_eq_true rfl)) dL_move_5 ⟨(Nat.le_of_ble_eq_true rfl), (Nat.le_of_ble_eq_true rfl)⟩) hS (fun q _ h => hFc q h) hFc (fun q _ h => hFc q h) (fun E9 ce q9 u t H1 locs1 ht hvm hw hB hz1 hk1 hS hc9 hv9 hf9 => ?_) (fun r u t H1 locs1 ht hvm hw hB hz1 hk1 hS => hw.elim)
  obtain rfl := hB
  refine vx_catch (name := "java/lang/IndexOutOfBoundsException") hown [] ⟨0, 10, 13, 21⟩ [⟨0, 10, 17, 15⟩, ⟨0, 10, 21, 37⟩] htb (fun z hz => by cases hz) (by decide) (by decide) (hts (.classLink RL 21 "java/lang/IndexOutOfBoundsException") (by decide +kernel)) (va_Nw.use rfl hE.2.2.1.2.2.1) hc9 hv9 hf9 ?_
  refine lv_astore (lv' := [(4, .ref q9), (0, .ref x), (1, .int a), (2, .int b), (3, .ref oA)]) hx hb dL_move_13 hl (by decide) rfl (fun ls hl => ?_)
  refine lv_iconst (v := 1) hx hb dL_move_15 (by decide) ?_
  refine vx_ret ?_
  refine W.widen (k := 1) (n := 6) (Nat.le_of_ble_eq_true rfl) (Nat.le_of_ble_eq_true rfl) ?_
  exact W.iret (v := 1) hx hb hr (fun t ht hW => ⟨⟨1, (), rfl, rfl, trivial⟩, hS.F ht⟩) hS.2.2 dL_move_16

set_option maxHeartbeats 4000000 in
set_option maxRecDepth 100000 in
theorem c_w_setTask (l : Launch) (hst : l.stackTraces = false) (dC : Nat → ClassId) (dI : Nat → Nat → Nat) (E : Nat → Nat) (x : Nat) (now : Nat) (fc : Nat) (ro : Nat) (hto : Nat) (de : Nat) (cr : Nat) (co : Nat) (sh : Nat) (eo : Nat) (w0 : Nat) (w1 : Nat) (w2 : Nat) (w3 : Nat) (a : Int32) (b : Int32) (oA : Nat) (sz : Nat) : vx_Met l yL_setTask wsL_setTask ({ frames := 8, cells := 1, slots := 6, locals := 126 }) (va_Pc [.ref x, .int a, .int b, .ref oA] (pre dC dI E [(x, .inr (14, [.ref now, .ref fc])), (now, .inr (13, [.ref ro, .ref hto, .ref de, .ref cr, .ref co, .ref sh, .ref eo, .int 0, .int 0, .int 10, .int 100, .int 50, .int 0, .int 50])), (cr, .inr (7, [.ref w0, .ref w1, .ref w2, .ref w3, .int 0, .int 0]))] [] sz)) (va_Qi (fun (r : Int32) (_ : Unit) => r = 1) (fun _ t => True) (va_A [(x, .inr (14, [.ref now, .ref fc])), (now, .inr (13, [.ref ro, .ref hto, .ref de, .ref cr, .ref co, .ref sh, .ref eo, .int 0, .int 0, .int 10, .int 100, .int 50, .int 0, .int 50])), (cr, .inr (7, [.ref w0, .ref w1, .ref w2, .ref w3, .int 0, .int 0]))] sz)) (vx_X (fun _ : Unit => False) (fun _ _ _ => False) (va_A [(x, .inr (14, [.ref now, .ref fc])), (now, .inr (13, [.ref ro, .ref hto, .ref de, .ref cr, .ref co, .ref sh, .ref eo, .int 0, .int 0, .int 10, .int 100, .int 50, .int 0, .int 50])), (cr, .inr (7, [.ref w0, .ref w1, .ref w2, .ref w3, .int 0, .int 0]))] sz)) 1 6 (va_A [(x, .inr (14, [.ref now, .ref fc])), (now, .inr (13, [.ref ro, .ref hto, .ref de, .ref cr, .ref co, .ref sh, .ref eo, .int 0, .int 0, .int 10, .int 100, .int 50, .int 0, .int 50])), (cr, .inr (7, [.ref w0, .ref w1, .ref w2, .ref w3, .int 0, .int 0]))] sz) := by
  refine vx_ofWH (cc := cL_setTask) (maxL := 5) (ret := (some .int)) (hh := [(0, 10, 13, 21), (0, 10, 17, 13), (0, 10, 21, 15), (0, 10, 25, 37)]) (by decide) rfl ?_
  intro p e s m args below meth c s₁ B hml hv
  obtain ⟨rfl, hsz, hP, hK, hD0, hE, hZ0⟩ := hv
  have hx := B.exec
  have hb := B.bytes
  have hr := B.returns
  have hts := atoms_spec (ws := wsL_setTask) B.pre
  have hown : s.vm.findClass RL = some m.cls := findClass_of_methodNamed B.named
  have hlocks := B.notSynchronized
  have htb := vx_table (x := yL_setTask) B (hts (.codeWith yL_setTask cL_setTask 5 (some .int) [(0, 10, 13, 21), (0, 10, 17, 13), (0, 10, 21, 15), (0, 10, 25, 37)]) List.mem_cons_self)
  subst hsz
  have hD := hD0.self (sz := s.heap.size)
  generalize hAe : va_A [(x, .inr (14, [.ref now, .ref fc])), (now, .inr (13, [.ref ro, .ref hto, .ref de, .ref cr, .ref co, .ref sh, .ref eo, .int 0, .int 0, .int 10, .int 100, .int 50, .int 0, .int 50])), (cr, .inr (7, [.ref w0, .ref w1, .ref w2, .ref w3, .int 0, .int 0]))] s.heap.size = A at hD hZ0 ⊢
  have hZ := hZ0
  have hA : ∀ q : Nat, s.heap.size ≤ q → A q := fun q h => by rw [← hAe]; exact Or.inr h
  have hS : va_S A s.heap s.heap [] := va_S.rf
  have hP : va_P (dC, dI) vwCl [(x, .inr (14, [.ref now, .ref fc])), (now, .inr (13, [.ref ro, .ref hto, .ref de, .ref cr, .ref co, .ref sh, .ref eo, .int 0, .int 0, .int 10, .int 100, .int 50, .int 0, .int 50])), (cr, .inr (7, [.ref w0, .ref w1, .ref w2, .ref w3, .int 0, .int 0]))] s.heap := hP
  have hl := lv_entry ([.ref x, .int a, .int b, .ref oA]) (n := 5) (Nat.le_of_ble_eq_true rfl)
  rw [lg_entry_eq]
  generalize (lg_sl ([.ref x, .int a, .int b, .ref oA]) ++ List.replicate (5 - (lg_sl ([.ref x, .int a, .int b, .ref oA])).length) Slot.unset).toArray = ls at hl ⊢
  have hl : lv_has ls 5 [(0, .ref x), (1, .int a), (2, .int b), (3, .ref oA)] := hl
  refine lv_aload_n hx hb dL_setTask_0 rfl (lv_at hl 3 rfl) ?_
  refine lv_iconst (v := 0) hx hb dL_setTask_1 (by decide) ?_
  refine lv_aload_n hx hb dL_setTask_2 rfl (lv_at hl 0 rfl) ?_
  refine lv_iload_n hx hb dL_setTask_3 rfl (lv_at hl 1 rfl) ?_
  refine lv_iload_n hx hb dL_setTask_4 rfl (lv_at hl 2 rfl) ?_
  have hPc := hP.sub (ws' := [(x, .inr (14, [.ref now, .ref fc])), (now, .inr (13, [.ref ro, .ref hto, .ref de, .ref cr, .ref co, .ref sh, .ref eo, .int 0, .int 0, .int 10, .int 100, .int 50, .int 0, .int 50])), (cr, .inr (7, [.ref w0, .ref w1, .ref w2, .ref w3, .int 0, .int 0]))]) [0, 1, 2] rfl
  have hDc := hD.sub (ws' := [(x, .inr (14, [.ref now, .ref fc])), (now, .inr (13, [.ref ro, .ref hto, .ref de, .ref cr, .ref co, .ref sh, .ref eo, .int 0, .int 0, .int 10, .int 100, .int 50, .int 0, .int 50])), (cr, .inr (7, [.ref w0, .ref w1, .ref w2, .ref w3, .int 0, .int 0]))]) [0, 1, 2] (by decide) rfl
  have hKc := hK.sub (tys' := []) [] rfl
  have hFc := va_free (wc := [(x, .inr (14, [.ref now, .ref fc])), (now, .inr (13, [.ref ro, .ref hto, .ref de, .ref cr, .ref co, .ref sh, .ref eo, .int 0, .int 0, .int 10, .int 100, .int 50, .int 0, .int 50])), (cr, .inr (7, [.ref w0, .ref w1, .ref w2, .ref w3, .int 0, .int 0]))]) hD hS hA [0, 1, 2] rfl
  refine vx_calli (vx_runV (As := [.int a, .int b]) (rest := [.int 0, .ref oA]) ⟨hx, hb, hml, hown, hts⟩ (c_cx_setTask l hst dC dI E x now fc ro hto de cr co sh eo w0 w1 w2 w3 a b s.heap.size) (cwV 2 hts gL_setTask_X8_setTask rfl rfl rfl (by decide +kernel) ⟨(Nat.le_of_ble_eq_true rfl), (Nat.le_of_ble_eq_true rfl)⟩) ⟨pre_blind, va_recv hKc hPc (ci := 14) (q0 := 0) rfl rfl, pre_call hPc hDc hKc hFc hE hZ hS⟩ rfl rfl hl.1 rfl (lv_room (Nat.le_of_ble_eq_true rfl)) dL_setTask_5 ⟨(Nat.le_of_ble_eq_true rfl), (Nat.le_of_ble_eq_true rfl)⟩) hS (fun q _ h => hFc q h) hFc (fun q _ h => hFc q h) (fun E9 ce q9 u t H1 locs1 ht hvm hw hB hz1 hk1 hS hc9 hv9 hf9 => ?_) (fun r u t H1 locs1 ht hvm hw hB hz1 hk1 hS => hw.elim)
  obtain rfl := hB
  refine vx_catch (name := "java/lang/IndexOutOfBoundsException") hown [] ⟨0, 10, 13, 21⟩ [⟨0, 10, 17, 13⟩, ⟨0, 10, 21, 15⟩, ⟨0, 10, 25, 37⟩] htb (fun z hz => by cases hz) (by decide) (by decide) (hts (.classLink RL 21 "java/lang/IndexOutOfBoundsException") (by decide +kernel)) (va_Nw.use rfl hE.2.2.1.2.2.1) hc9 hv9 hf9 ?_
  refine lv_astore (lv' := [(4, .ref q9), (0, .ref x), (1, .int a), (2, .int b), (3, .ref oA)]) hx hb dL_setTask_13 hl (by decide) rfl (fun ls hl => ?_)
  refine lv_iconst (v := 1) hx hb dL_setTask_15 (by decide) ?_
  refine vx_ret ?_
  refine W.widen (k := 1) (n := 6) (Nat.le_of_ble_eq_true rfl) (Nat.le_of_ble_eq_true rfl) ?_
  exact W.iret (v := 1) hx hb hr (fun t ht hW => ⟨⟨1, (), rfl, rfl, trivial⟩, hS.F ht⟩) hS.2.2 dL_setTask_16

set_option maxHeartbeats 4000000 in
set_option maxRecDepth 100000 in
theorem c_w_send_y (l : Launch) (hst : l.stackTraces = false) (dC : Nat → ClassId) (dI : Nat → Nat → Nat) (E : Nat → Nat) (x : Nat) (now : Nat) (fc : Nat) (ro : Nat) (hto : Nat) (de : Nat) (cr : Nat) (co : Nat) (sh : Nat) (eo : Nat) (v0 : Nat) (v1 : Nat) (v2 : Nat) (g0 : Nat) (g1 : Nat) (g2 : Nat) (k : Int32) (a : Int32) (b : Int32) (c4 : Int32) (oA : Nat) (sz : Nat) (hk : k = 110 ∨ k = 102 ∨ k = 111 ∨ k = 104) (hla1 : ¬ b < 1) (hua1 : ¬ 99 < b) (hla2 : ¬ c4 < 0) (hua2 : ¬ 99 < c4) : vx_Met l yL_send wsL_send ({ frames := 8, cells := 1, slots := 6, locals := 128 }) (va_Pc [.ref x, .int k, .int a, .int b, .int c4, .ref oA] (pre dC dI E [(x, .inr (14, [.ref now, .ref fc])), (now, .inr (13, [.ref ro, .ref hto, .ref de, .ref cr, .ref co, .ref sh, .ref eo, .int 0, .int 0, .int 10, .int 100, .int 50, .int 0, .int 50])), (de, .inr (8, [.ref v0, .ref v1, .ref v2, .int 0, .int (-1)])), (hto, .inr (10, [.ref g0, .ref g1, .ref g2, .int 0]))] [] sz)) (va_Qi (fun (r : Int32) (_ : Unit) => r = 2) (fun _ t => True) (va_A [(x, .inr (14, [.ref now, .ref fc])), (now, .inr (13, [.ref ro, .ref hto, .ref de, .ref cr, .ref co, .ref sh, .ref eo, .int 0, .int 0, .int 10, .int 100, .int 50, .int 0, .int 50])), (de, .inr (8, [.ref v0, .ref v1, .ref v2, .int 0, .int (-1)])), (hto, .inr (10, [.ref g0, .ref g1, .ref g2, .int 0]))] sz)) (vx_X (fun _ : Unit => False) (fun _ _ _ => False) (va_A [(x, .inr (14, [.ref now, .ref fc])), (now, .inr (13, [.ref ro, .ref hto, .ref de, .ref cr, .ref co, .ref sh, .ref eo, .int 0, .int 0, .int 10, .int 100, .int 50, .int 0, .int 50])), (de, .inr (8, [.ref v0, .ref v1, .ref v2, .int 0, .int (-1)])), (hto, .inr (10, [.ref g0, .ref g1, .ref g2, .int 0]))] sz)) 1 6 (va_A [(x, .inr (14, [.ref now, .ref fc])), (now, .inr (13, [.ref ro, .ref hto, .ref de, .ref cr, .ref co, .ref sh, .ref eo, .int 0, .int 0, .int 10, .int 100, .int 50, .int 0, .int 50])), (de, .inr (8, [.ref v0, .ref v1, .ref v2, .int 0, .int (-1)])), (hto, .inr (10, [.ref g0, .ref g1, .ref g2, .int 0]))] sz) := by
  refine vx_ofWH (cc := cL_send) (maxL := 7) (ret := (some .int)) (hh := [(0, 14, 17, 13), (0, 14, 21, 21), (0, 14, 25, 15), (0, 14, 29, 37)]) (by decide) rfl ?_
  intro p e s m args below meth c s₁ B hml hv
  obtain ⟨rfl, hsz, hP, hK, hD0, hE, hZ0⟩ := hv
  have hx := B.exec
  have hb := B.bytes
  have hr := B.returns
  have hts := atoms_spec (ws := wsL_send) B.pre
  have hown : s.vm.findClass RL = some m.cls := findClass_of_methodNamed B.named
  have hlocks := B.notSynchronized
  have htb := vx_table (x := yL_send) B (hts (.codeWith yL_send cL_send 7 (some .int) [(0, 14, 17, 13), (0, 14, 21, 21), (0, 14, 25, 15), (0, 14, 29, 37)]) List.mem_cons_self)
  subst hsz
  have hD := hD0.self (sz := s.heap.size)
  generalize hAe : va_A [(x, .inr (14, [.ref now, .ref fc])), (now, .inr (13, [.ref ro, .ref hto, .ref de, .ref cr, .ref co, .ref sh, .ref eo, .int 0, .int 0, .int 10, .int 100, .int 50, .int 0, .int 50])), (de, .inr (8, [.ref v0, .ref v1, .ref v2, .int 0, .int (-1)])), (hto, .inr (10, [.ref g0, .ref g1, .ref g2, .int 0]))] s.heap.size = A at hD hZ0 ⊢
  have hZ := hZ0
  have hA : ∀ q : Nat, s.heap.size ≤ q → A q := fun q h => by rw [← hAe]; exact Or.inr h
  have hS : va_S A s.heap s.heap [] := va_S.rf
  have hP : va_P (dC, dI) vwCl [(x, .inr (14, [.ref now, .ref fc])), (now, .inr (13, [.ref ro, .ref hto, .ref de, .ref cr, .ref co, .ref sh, .ref eo, .int 0, .int 0, .int 10, .int 100, .int 50, .int 0, .int 50])), (de, .inr (8, [.ref v0, .ref v1, .ref v2, .int 0, .int (-1)])), (hto, .inr (10, [.ref g0, .ref g1, .ref g2, .int 0]))] s.heap := hP
  have hl := lv_entry ([.ref x, .int k, .int a, .int b, .int c4, .ref oA]) (n := 7) (Nat.le_of_ble_eq_true rfl)
  rw [lg_entry_eq]
  generalize (lg_sl ([.ref x, .int k, .int a, .int b, .int c4, .ref oA]) ++ List.replicate (7 - (lg_sl ([.ref x, .int k, .int a, .int b, .int c4, .ref oA])).length) Slot.unset).toArray = ls at hl ⊢
  have hl : lv_has ls 7 [(0, .ref x), (1, .int k), (2, .int a), (3, .int b), (4, .int c4), (5, .ref oA)] := hl
  refine lv_aload hx hb dL_send_0 (lv_at hl 5 rfl) ?_
  refine lv_iconst (v := 0) hx hb dL_send_2 (by decide) ?_
  refine lv_aload_n hx hb dL_send_3 rfl (lv_at hl 0 rfl) ?_
  refine lv_iload_n hx hb dL_send_4 rfl (lv_at hl 1 rfl) ?_
  refine lv_iload_n hx hb dL_send_5 rfl (lv_at hl 2 rfl) ?_
  refine lv_iload_n hx hb dL_send_6 rfl (lv_at hl 3 rfl) ?_
  refine lv_iload hx hb dL_send_7 (lv_at hl 4 rfl) ?_
  have hPc := hP.sub (ws' := [(x, .inr (14, [.ref now, .ref fc])), (now, .inr (13, [.ref ro, .ref hto, .ref de, .ref cr, .ref co, .ref sh, .ref eo, .int 0, .int 0, .int 10, .int 100, .int 50, .int 0, .int 50])), (de, .inr (8, [.ref v0, .ref v1, .ref v2, .int 0, .int (-1)])), (hto, .inr (10, [.ref g0, .ref g1, .ref g2, .int 0]))]) [0, 1, 2, 3] rfl
  have hDc := hD.sub (ws' := [(x, .inr (14, [.ref now, .ref fc])), (now, .inr (13, [.ref ro, .ref hto, .ref de, .ref cr, .ref co, .ref sh, .ref eo, .int 0, .int 0, .int 10, .int 100, .int 50, .int 0, .int 50])), (de, .inr (8, [.ref v0, .ref v1, .ref v2, .int 0, .int (-1)])), (hto, .inr (10, [.ref g0, .ref g1, .ref g2, .int 0]))]) [0, 1, 2, 3] (by decide) rfl
  have hKc := hK.sub (tys' := []) [] rfl
  have hFc := va_free (wc := [(x, .inr (14, [.ref now, .ref fc])), (now, .inr (13, [.ref ro, .ref hto, .ref de, .ref cr, .ref co, .ref sh, .ref eo, .int 0, .int 0, .int 10, .int 100, .int 50, .int 0, .int 50])), (de, .inr (8, [.ref v0, .ref v1, .ref v2, .int 0, .int (-1)])), (hto, .inr (10, [.ref g0, .ref g1, .ref g2, .int 0]))]) hD hS hA [0, 1, 2, 3] rfl
  refine vx_calli (vx_runV (As := [.int k, .int a, .int b, .int c4]) (rest := [.int 0, .ref oA]) ⟨hx, hb, hml, hown, hts⟩ (c_cx_send_y l hst dC dI E x now fc ro hto de cr co sh eo v0 v1 v2 g0 g1 g2 k a b c4 s.heap.size hk hla1 hua1 hla2 hua2) (cwV 4 hts gL_send_X8_send rfl rfl rfl (by decide +kernel) ⟨(Nat.le_of_ble_eq_true rfl), (Nat.le_of_ble_eq_true rfl)⟩) ⟨pre_blind, va_recv hKc hPc (ci := 14) (q0 := 0) rfl rfl, pre_call hPc hDc hKc hFc hE hZ hS⟩ rfl rfl hl.1 rfl (lv_room (Nat.le_of_ble_eq_true rfl)) dL_send_9 ⟨(Nat.le_of_ble_eq_true rfl), (Nat.le_of_ble_eq_true rfl)⟩) hS (fun q _ h => hFc q h) hFc (fun q _ h => hFc q h) (fun E9 ce q9 u t H1 locs1 ht hvm hw hB hz1 hk1 hS hc9 hv9 hf9 => ?_) (fun r u t H1 locs1 ht hvm hw hB hz1 hk1 hS => hw.elim)
  obtain rfl := hB
  refine vx_catch (name := "java/lang/IndexOutOfBoundsException") hown [⟨0, 14, 17, 13⟩] ⟨0, 14, 21, 21⟩ [⟨0, 14, 25, 15⟩, ⟨0, 14, 29, 37⟩] htb (fun z hz => by rcases List.mem_singleton.mp hz with rfl; exact Or.inr ⟨by decide, "java/lang/IllegalArgumentException", hts (.classLink RL 13 "java/lang/IllegalArgumentException") (by decide +kernel), hE.2.2.1.2.2.2.1⟩) (by decide) (by decide) (hts (.classLink RL 21 "java/lang/IndexOutOfBoundsException") (by decide +kernel)) (va_Nw.use rfl hE.2.2.1.2.2.1) hc9 hv9 hf9 ?_
  refine lv_astore (lv' := [(6, .ref q9), (0, .ref x), (1, .int k), (2, .int a), (3, .int b), (4, .int c4), (5, .ref oA)]) hx hb dL_send_21 hl (by decide) rfl (fun ls hl => ?_)
  refine lv_iconst (v := 2) hx hb dL_send_23 (by decide) ?_
  refine vx_ret ?_
  refine W.widen (k := 1) (n := 6) (Nat.le_of_ble_eq_true rfl) (Nat.le_of_ble_eq_true rfl) ?_
  exact W.iret (v := 2) hx hb hr (fun t ht hW => ⟨⟨2, (), rfl, rfl, trivial⟩, hS.F ht⟩) hS.2.2 dL_send_24

set_option maxHeartbeats 4000000 in
set_option maxRecDepth 100000 in
theorem c_w_send_n1 (l : Launch) (hst : l.stackTraces = false) (dC : Nat → ClassId) (dI : Nat → Nat → Nat) (E : Nat → Nat) (x : Nat) (k : Int32) (a : Int32) (b : Int32) (c4 : Int32) (oA : Nat) (now : Nat) (fc : Nat) (sz : Nat) (hk : ¬ (k = 110 ∨ k = 102 ∨ k = 111 ∨ k = 104)) : vx_Met l yL_send wsL_send ({ frames := 7, cells := 1, slots := 6, locals := 107 }) (va_Pc [.ref x, .int k, .int a, .int b, .int c4, .ref oA] (pre dC dI E [(x, .inr (14, [.ref now, .ref fc]))] [] sz)) (va_Qi (fun (r : Int32) (_ : Unit) => r = 1) (fun _ t => True) (va_A [(x, .inr (14, [.ref now, .ref fc]))] sz)) (vx_X (fun _ : Unit => False) (fun _ _ _ => False) (va_A [(x, .inr (14, [.ref now, .ref fc]))] sz)) 1 6 (va_A [(x, .inr (14, [.ref now, .ref fc]))] sz) := by
  refine vx_ofWH (cc := cL_send) (maxL := 7) (ret := (some .int)) (hh := [(0, 14, 17, 13), (0, 14, 21, 21), (0, 14, 25, 15), (0, 14, 29, 37)]) (by decide) rfl ?_
  intro p e s m args below meth c s₁ B hml hv
  obtain ⟨rfl, hsz, hP, hK, hD0, hE, hZ0⟩ := hv
  have hx := B.exec
  have hb := B.bytes
  have hr := B.returns
  have hts := atoms_spec (ws := wsL_send) B.pre
  have hown : s.vm.findClass RL = some m.cls := findClass_of_methodNamed B.named
  have hlocks := B.notSynchronized
  have htb := vx_table (x := yL_send) B (hts (.codeWith yL_send cL_send 7 (some .int) [(0, 14, 17, 13), (0, 14, 21, 21), (0, 14, 25, 15), (0, 14, 29, 37)]) List.mem_cons_self)
  subst hsz
  have hD := hD0.self (sz := s.heap.size)
  generalize hAe : va_A [(x, .inr (14, [.ref now, .ref fc]))] s.heap.size = A at hD hZ0 ⊢
  have hZ := hZ0
  have hA : ∀ q : Nat, s.heap.size ≤ q → A q := fun q h => by rw [← hAe]; exact Or.inr h
  have hS : va_S A s.heap s.heap [] := va_S.rf
  have hP : va_P (dC, dI) vwCl [(x, .inr (14, [.ref now, .ref fc]))] s.heap := hP
  have hl := lv_entry ([.ref x, .int k, .int a, .int b, .int c4, .ref oA]) (n := 7) (Nat.le_of_ble_eq_true rfl)
  rw [lg_entry_eq]
  generalize (lg_sl ([.ref x, .int k, .int a, .int b, .int c4, .ref oA]) ++ List.replicate (7 - (lg_sl ([.ref x, .int k, .int a, .int b, .int c4, .ref oA])).length) Slot.unset).toArray = ls at hl ⊢
  have hl : lv_has ls 7 [(0, .ref x), (1, .int k), (2, .int a), (3, .int b), (4, .int c4), (5, .ref oA)] := hl
  refine lv_aload hx hb dL_send_0 (lv_at hl 5 rfl) ?_
  refine lv_iconst (v := 0) hx hb dL_send_2 (by decide) ?_
  refine lv_aload_n hx hb dL_send_3 rfl (lv_at hl 0 rfl) ?_
  refine lv_iload_n hx hb dL_send_4 rfl (lv_at hl 1 rfl) ?_
  refine lv_iload_n hx hb dL_send_5 rfl (lv_at hl 2 rfl) ?_
  refine lv_iload_n hx hb dL_send_6 rfl (lv_at hl 3 rfl) ?_
  refine lv_iload hx hb dL_send_7 (lv_at hl 4 rfl) ?_
  have hPc := hP.sub (ws' := []) [] rfl
  have hDc := hD.sub (ws' := []) [] (by decide) rfl
  have hKc := hK.sub (tys' := []) [] rfl
  have hFc := va_free (wc := []) hD hS hA [] rfl
  refine vx_calli (vx_runV (As := [.int k, .int a, .int b, .int c4]) (rest := [.int 0, .ref oA]) ⟨hx, hb, hml, hown, hts⟩ (c_cx_send_n1 l hst dC dI E x k a b c4 s.heap.size hk) (cwV 4 hts gL_send_X8_send rfl rfl rfl (by decide +kernel) ⟨(Nat.le_of_ble_eq_true rfl), (Nat.le_of_ble_eq_true rfl)⟩) ⟨pre_blind, va_recv hK hP (ci := 14) (q0 := 0) rfl rfl, pre_call hPc hDc hKc hFc hE hZ hS⟩ rfl rfl hl.1 rfl (lv_room (Nat.le_of_ble_eq_true rfl)) dL_send_9 ⟨(Nat.le_of_ble_eq_true rfl), (Nat.le_of_ble_eq_true rfl)⟩) hS (fun q _ h => hFc q h) hFc (fun q _ h => hFc q h) (fun E9 ce q9 u t H1 locs1 ht hvm hw hB hz1 hk1 hS hc9 hv9 hf9 => ?_) (fun r u t H1 locs1 ht hvm hw hB hz1 hk1 hS => hw.elim)
  obtain rfl := hB
  refine vx_catch (name := "java/lang/IllegalArgumentException") hown [] ⟨0, 14, 17, 13⟩ [⟨0, 14, 21, 21⟩, ⟨0, 14, 25, 15⟩, ⟨0, 14, 29, 37⟩] htb (fun z hz => by cases hz) (by decide) (by decide) (hts (.classLink RL 13 "java/lang/IllegalArgumentException") (by decide +kernel)) (va_Nw.use rfl hE.2.2.1.2.1) hc9 hv9 hf9 ?_
  refine lv_astore (lv' := [(6, .ref q9), (0, .ref x), (1, .int k), (2, .int a), (3, .int b), (4, .int c4), (5, .ref oA)]) hx hb dL_send_17 hl (by decide) rfl (fun ls hl => ?_)
  refine lv_iconst (v := 1) hx hb dL_send_19 (by decide) ?_
  refine vx_ret ?_
  refine W.widen (k := 1) (n := 6) (Nat.le_of_ble_eq_true rfl) (Nat.le_of_ble_eq_true rfl) ?_
  exact W.iret (v := 1) hx hb hr (fun t ht hW => ⟨⟨1, (), rfl, rfl, trivial⟩, hS.F ht⟩) hS.2.2 dL_send_20

set_option maxHeartbeats 4000000 in
set_option maxRecDepth 100000 in
theorem c_w_send_n2 (l : Launch) (hst : l.stackTraces = false) (dC : Nat → ClassId) (dI : Nat → Nat → Nat) (E : Nat → Nat) (x : Nat) (k : Int32) (a : Int32) (b : Int32) (c4 : Int32) (oA : Nat) (now : Nat) (fc : Nat) (sz : Nat) (hk : k = 110 ∨ k = 102 ∨ k = 111 ∨ k = 104) (h : ¬ (¬ b < 1 ∧ ¬ 99 < b)) : vx_Met l yL_send wsL_send ({ frames := 8, cells := 1, slots := 6, locals := 129 }) (va_Pc [.ref x, .int k, .int a, .int b, .int c4, .ref oA] (pre dC dI E [(x, .inr (14, [.ref now, .ref fc]))] [] sz)) (va_Qi (fun (r : Int32) (_ : Unit) => r = 1) (fun _ t => True) (va_A [(x, .inr (14, [.ref now, .ref fc]))] sz)) (vx_X (fun _ : Unit => False) (fun _ _ _ => False) (va_A [(x, .inr (14, [.ref now, .ref fc]))] sz)) 1 6 (va_A [(x, .inr (14, [.ref now, .ref fc]))] sz) := by
  refine vx_ofWH (cc := cL_send) (maxL := 7) (ret := (some .int)) (hh := [(0, 14, 17, 13), (0, 14, 21, 21), (0, 14, 25, 15), (0, 14, 29, 37)]) (by decide) rfl ?_
  intro p e s m args below meth c s₁ B hml hv
  obtain ⟨rfl, hsz, hP, hK, hD0, hE, hZ0⟩ := hv
  have hx := B.exec
  have hb := B.bytes
  have hr := B.returns
  have hts := atoms_spec (ws := wsL_send) B.pre
  have hown : s.vm.findClass RL = some m.cls := findClass_of_methodNamed B.named
  have hlocks := B.notSynchronized
  have htb := vx_table (x := yL_send) B (hts (.codeWith yL_send cL_send 7 (some .int) [(0, 14, 17, 13), (0, 14, 21, 21), (0, 14, 25, 15), (0, 14, 29, 37)]) List.mem_cons_self)
  subst hsz
  have hD := hD0.self (sz := s.heap.size)
  generalize hAe : va_A [(x, .inr (14, [.ref now, .ref fc]))] s.heap.size = A at hD hZ0 ⊢
  have hZ := hZ0
  have hA : ∀ q : Nat, s.heap.size ≤ q → A q := fun q h => by rw [← hAe]; exact Or.inr h
  have hS : va_S A s.heap s.heap [] := va_S.rf
  have hP : va_P (dC, dI) vwCl [(x, .inr (14, [.ref now, .ref fc]))] s.heap := hP
  have hl := lv_entry ([.ref x, .int k, .int a, .int b, .int c4, .ref oA]) (n := 7) (Nat.le_of_ble_eq_true rfl)
  rw [lg_entry_eq]
  generalize (lg_sl ([.ref x, .int k, .int a, .int b, .int c4, .ref oA]) ++ List.replicate (7 - (lg_sl ([.ref x, .int k, .int a, .int b, .int c4, .ref oA])).length) Slot.unset).toArray = ls at hl ⊢
  have hl : lv_has ls 7 [(0, .ref x), (1, .int k), (2, .int a), (3, .int b), (4, .int c4), (5, .ref oA)] := hl
  refine lv_aload hx hb dL_send_0 (lv_at hl 5 rfl) ?_
  refine lv_iconst (v := 0) hx hb dL_send_2 (by decide) ?_
  refine lv_aload_n hx hb dL_send_3 rfl (lv_at hl 0 rfl) ?_
  refine lv_iload_n hx hb dL_send_4 rfl (lv_at hl 1 rfl) ?_
  refine lv_iload_n hx hb dL_send_5 rfl (lv_at hl 2 rfl) ?_
  refine lv_iload_n hx hb dL_send_6 rfl (lv_at hl 3 rfl) ?_
  refine lv_iload hx hb dL_send_7 (lv_at hl 4 rfl) ?_
  have hPc := hP.sub (ws' := []) [] rfl
  have hDc := hD.sub (ws' := []) [] (by decide) rfl
  have hKc := hK.sub (tys' := []) [] rfl
  have hFc := va_free (wc := []) hD hS hA [] rfl
  refine vx_calli (vx_runV (As := [.int k, .int a, .int b, .int c4]) (rest := [.int 0, .ref oA]) ⟨hx, hb, hml, hown, hts⟩ (c_cx_send_n2 l hst dC dI E x k a b c4 s.heap.size hk h) (cwV 4 hts gL_send_X8_send rfl rfl rfl (by decide +kernel) ⟨(Nat.le_of_ble_eq_true rfl), (Nat.le_of_ble_eq_true rfl)⟩) ⟨pre_blind, va_recv hK hP (ci := 14) (q0 := 0) rfl rfl, pre_call hPc hDc hKc hFc hE hZ hS⟩ rfl rfl hl.1 rfl (lv_room (Nat.le_of_ble_eq_true rfl)) dL_send_9 ⟨(Nat.le_of_ble_eq_true rfl), (Nat.le_of_ble_eq_true rfl)⟩) hS (fun q _ h => hFc q h) hFc (fun q _ h => hFc q h) (fun E9 ce q9 u t H1 locs1 ht hvm hw hB hz1 hk1 hS hc9 hv9 hf9 => ?_) (fun r u t H1 locs1 ht hvm hw hB hz1 hk1 hS => hw.elim)
  obtain rfl := hB
  refine vx_catch (name := "java/lang/IllegalArgumentException") hown [] ⟨0, 14, 17, 13⟩ [⟨0, 14, 21, 21⟩, ⟨0, 14, 25, 15⟩, ⟨0, 14, 29, 37⟩] htb (fun z hz => by cases hz) (by decide) (by decide) (hts (.classLink RL 13 "java/lang/IllegalArgumentException") (by decide +kernel)) (va_Nw.use rfl hE.2.2.1.2.1) hc9 hv9 hf9 ?_
  refine lv_astore (lv' := [(6, .ref q9), (0, .ref x), (1, .int k), (2, .int a), (3, .int b), (4, .int c4), (5, .ref oA)]) hx hb dL_send_17 hl (by decide) rfl (fun ls hl => ?_)
  refine lv_iconst (v := 1) hx hb dL_send_19 (by decide) ?_
  refine vx_ret ?_
  refine W.widen (k := 1) (n := 6) (Nat.le_of_ble_eq_true rfl) (Nat.le_of_ble_eq_true rfl) ?_
  exact W.iret (v := 1) hx hb hr (fun t ht hW => ⟨⟨1, (), rfl, rfl, trivial⟩, hS.F ht⟩) hS.2.2 dL_send_20

set_option maxHeartbeats 4000000 in
set_option maxRecDepth 100000 in
theorem c_w_send_n3 (l : Launch) (hst : l.stackTraces = false) (dC : Nat → ClassId) (dI : Nat → Nat → Nat) (E : Nat → Nat) (x : Nat) (k : Int32) (a : Int32) (b : Int32) (c4 : Int32) (oA : Nat) (now : Nat) (fc : Nat) (sz : Nat) (hk : k = 110 ∨ k = 102 ∨ k = 111 ∨ k = 104) (hla1 : ¬ b < 1) (hua1 : ¬ 99 < b) (h : ¬ (¬ c4 < 0 ∧ ¬ 99 < c4)) : vx_Met l yL_send wsL_send ({ frames := 8, cells := 1, slots := 6, locals := 129 }) (va_Pc [.ref x, .int k, .int a, .int b, .int c4, .ref oA] (pre dC dI E [(x, .inr (14, [.ref now, .ref fc]))] [] sz)) (va_Qi (fun (r : Int32) (_ : Unit) => r = 1) (fun _ t => True) (va_A [(x, .inr (14, [.ref now, .ref fc]))] sz)) (vx_X (fun _ : Unit => False) (fun _ _ _ => False) (va_A [(x, .inr (14, [.ref now, .ref fc]))] sz)) 1 6 (va_A [(x, .inr (14, [.ref now, .ref fc]))] sz) := by
  refine vx_ofWH (cc := cL_send) (maxL := 7) (ret := (some .int)) (hh := [(0, 14, 17, 13), (0, 14, 21, 21), (0, 14, 25, 15), (0, 14, 29, 37)]) (by decide) rfl ?_
  intro p e s m args below meth c s₁ B hml hv
  obtain ⟨rfl, hsz, hP, hK, hD0, hE, hZ0⟩ := hv
  have hx := B.exec
  have hb := B.bytes
  have hr := B.returns
  have hts := atoms_spec (ws := wsL_send) B.pre
  have hown : s.vm.findClass RL = some m.cls := findClass_of_methodNamed B.named
  have hlocks := B.notSynchronized
  have htb := vx_table (x := yL_send) B (hts (.codeWith yL_send cL_send 7 (some .int) [(0, 14, 17, 13), (0, 14, 21, 21), (0, 14, 25, 15), (0, 14, 29, 37)]) List.mem_cons_self)
  subst hsz
  have hD := hD0.self (sz := s.heap.size)
  generalize hAe : va_A [(x, .inr (14, [.ref now, .ref fc]))] s.heap.size = A at hD hZ0 ⊢
  have hZ := hZ0
  have hA : ∀ q : Nat, s.heap.size ≤ q → A q := fun q h => by rw [← hAe]; exact Or.inr h
  have hS : va_S A s.heap s.heap [] := va_S.rf
  have hP : va_P (dC, dI) vwCl [(x, .inr (14, [.ref now, .ref fc]))] s.heap := hP
  have hl := lv_entry ([.ref x, .int k, .int a, .int b, .int c4, .ref oA]) (n := 7) (Nat.le_of_ble_eq_true rfl)
  rw [lg_entry_eq]
  generalize (lg_sl ([.ref x, .int k, .int a, .int b, .int c4, .ref oA]) ++ List.replicate (7 - (lg_sl ([.ref x, .int k, .int a, .int b, .int c4, .ref oA])).length) Slot.unset).toArray = ls at hl ⊢
  have hl : lv_has ls 7 [(0, .ref x), (1, .int k), (2, .int a), (3, .int b), (4, .int c4), (5, .ref oA)] := hl
  refine lv_aload hx hb dL_send_0 (lv_at hl 5 rfl) ?_
  refine lv_iconst (v := 0) hx hb dL_send_2 (by decide) ?_
  refine lv_aload_n hx hb dL_send_3 rfl (lv_at hl 0 rfl) ?_
  refine lv_iload_n hx hb dL_send_4 rfl (lv_at hl 1 rfl) ?_
  refine lv_iload_n hx hb dL_send_5 rfl (lv_at hl 2 rfl) ?_
  refine lv_iload_n hx hb dL_send_6 rfl (lv_at hl 3 rfl) ?_
  refine lv_iload hx hb dL_send_7 (lv_at hl 4 rfl) ?_
  have hPc := hP.sub (ws' := []) [] rfl
  have hDc := hD.sub (ws' := []) [] (by decide) rfl
  have hKc := hK.sub (tys' := []) [] rfl
  have hFc := va_free (wc := []) hD hS hA [] rfl
  refine vx_calli (vx_runV (As := [.int k, .int a, .int b, .int c4]) (rest := [.int 0, .ref oA]) ⟨hx, hb, hml, hown, hts⟩ (c_cx_send_n3 l hst dC dI E x k a b c4 s.heap.size hk hla1 hua1 h) (cwV 4 hts gL_send_X8_send rfl rfl rfl (by decide +kernel) ⟨(Nat.le_of_ble_eq_true rfl), (Nat.le_of_ble_eq_true rfl)⟩) ⟨pre_blind, va_recv hK hP (ci := 14) (q0 := 0) rfl rfl, pre_call hPc hDc hKc hFc hE hZ hS⟩ rfl rfl hl.1 rfl (lv_room (Nat.le_of_ble_eq_true rfl)) dL_send_9 ⟨(Nat.le_of_ble_eq_true rfl), (Nat.le_of_ble_eq_true rfl)⟩) hS (fun q _ h => hFc q h) hFc (fun q _ h => hFc q h) (fun E9 ce q9 u t H1 locs1 ht hvm hw hB hz1 hk1 hS hc9 hv9 hf9 => ?_) (fun r u t H1 locs1 ht hvm hw hB hz1 hk1 hS => hw.elim)
  obtain rfl := hB
  refine vx_catch (name := "java/lang/IllegalArgumentException") hown [] ⟨0, 14, 17, 13⟩ [⟨0, 14, 21, 21⟩, ⟨0, 14, 25, 15⟩, ⟨0, 14, 29, 37⟩] htb (fun z hz => by cases hz) (by decide) (by decide) (hts (.classLink RL 13 "java/lang/IllegalArgumentException") (by decide +kernel)) (va_Nw.use rfl hE.2.2.1.2.1) hc9 hv9 hf9 ?_
  refine lv_astore (lv' := [(6, .ref q9), (0, .ref x), (1, .int k), (2, .int a), (3, .int b), (4, .int c4), (5, .ref oA)]) hx hb dL_send_17 hl (by decide) rfl (fun ls hl => ?_)
  refine lv_iconst (v := 1) hx hb dL_send_19 (by decide) ?_
  refine vx_ret ?_
  refine W.widen (k := 1) (n := 6) (Nat.le_of_ble_eq_true rfl) (Nat.le_of_ble_eq_true rfl) ?_
  exact W.iret (v := 1) hx hb hr (fun t ht hW => ⟨⟨1, (), rfl, rfl, trivial⟩, hS.F ht⟩) hS.2.2 dL_send_20

set_option maxHeartbeats 4000000 in
set_option maxRecDepth 100000 in
theorem c_w_approach_n1 (l : Launch) (hst : l.stackTraces = false) (dC : Nat → ClassId) (dI : Nat → Nat → Nat) (E : Nat → Nat) (x : Nat) (a : Int32) (b : Int32) (oA : Nat) (now : Nat) (fc : Nat) (sz : Nat) (h : ¬ (¬ a < 1 ∧ ¬ 500 < a)) : vx_Met l yL_approach wsL_approach ({ frames := 8, cells := 1, slots := 6, locals := 126 }) (va_Pc [.ref x, .int a, .int b, .ref oA] (pre dC dI E [(x, .inr (14, [.ref now, .ref fc]))] [] sz)) (va_Qi (fun (r : Int32) (_ : Unit) => r = 1) (fun _ t => True) (va_A [(x, .inr (14, [.ref now, .ref fc]))] sz)) (vx_X (fun _ : Unit => False) (fun _ _ _ => False) (va_A [(x, .inr (14, [.ref now, .ref fc]))] sz)) 1 6 (va_A [(x, .inr (14, [.ref now, .ref fc]))] sz) := by
  refine vx_ofWH (cc := cL_approach) (maxL := 5) (ret := (some .int)) (hh := [(0, 10, 13, 13), (0, 10, 17, 15)]) (by decide) rfl ?_
  intro p e s m args below meth c s₁ B hml hv
  obtain ⟨rfl, hsz, hP, hK, hD0, hE, hZ0⟩ := hv
  have hx := B.exec
  have hb := B.bytes
  have hr := B.returns
  have hts := atoms_spec (ws := wsL_approach) B.pre
  have hown : s.vm.findClass RL = some m.cls := findClass_of_methodNamed B.named
  have hlocks := B.notSynchronized
  have htb := vx_table (x := yL_approach) B (hts (.codeWith yL_approach cL_approach 5 (some .int) [(0, 10, 13, 13), (0, 10, 17, 15)]) List.mem_cons_self)
  subst hsz
  have hD := hD0.self (sz := s.heap.size)
  generalize hAe : va_A [(x, .inr (14, [.ref now, .ref fc]))] s.heap.size = A at hD hZ0 ⊢
  have hZ := hZ0
  have hA : ∀ q : Nat, s.heap.size ≤ q → A q := fun q h => by rw [← hAe]; exact Or.inr h
  have hS : va_S A s.heap s.heap [] := va_S.rf
  have hP : va_P (dC, dI) vwCl [(x, .inr (14, [.ref now, .ref fc]))] s.heap := hP
  have hl := lv_entry ([.ref x, .int a, .int b, .ref oA]) (n := 5) (Nat.le_of_ble_eq_true rfl)
  rw [lg_entry_eq]
  generalize (lg_sl ([.ref x, .int a, .int b, .ref oA]) ++ List.replicate (5 - (lg_sl ([.ref x, .int a, .int b, .ref oA])).length) Slot.unset).toArray = ls at hl ⊢
  have hl : lv_has ls 5 [(0, .ref x), (1, .int a), (2, .int b), (3, .ref oA)] := hl
  refine lv_aload_n hx hb dL_approach_0 rfl (lv_at hl 3 rfl) ?_
  refine lv_iconst (v := 0) hx hb dL_approach_1 (by decide) ?_
  refine lv_aload_n hx hb dL_approach_2 rfl (lv_at hl 0 rfl) ?_
  refine lv_iload_n hx hb dL_approach_3 rfl (lv_at hl 1 rfl) ?_
  refine lv_iload_n hx hb dL_approach_4 rfl (lv_at hl 2 rfl) ?_
  have hPc := hP.sub (ws' := []) [] rfl
  have hDc := hD.sub (ws' := []) [] (by decide) rfl
  have hKc := hK.sub (tys' := []) [] rfl
  have hFc := va_free (wc := []) hD hS hA [] rfl
  refine vx_calli (vx_runV (As := [.int a, .int b]) (rest := [.int 0, .ref oA]) ⟨hx, hb, hml, hown, hts⟩ (c_cx_approach_n1 l hst dC dI E x a b s.heap.size h) (cwV 2 hts gL_approach_X8_approach rfl rfl rfl (by decide +kernel) ⟨(Nat.le_of_ble_eq_true rfl), (Nat.le_of_ble_eq_true rfl)⟩) ⟨pre_blind, va_recv hK hP (ci := 14) (q0 := 0) rfl rfl, pre_call hPc hDc hKc hFc hE hZ hS⟩ rfl rfl hl.1 rfl (lv_room (Nat.le_of_ble_eq_true rfl)) dL_approach_5 ⟨(Nat.le_of_ble_eq_true rfl), (Nat.le_of_ble_eq_true rfl)⟩) hS (fun q _ h => hFc q h) hFc (fun q _ h => hFc q h) (fun E9 ce q9 u t H1 locs1 ht hvm hw hB hz1 hk1 hS hc9 hv9 hf9 => ?_) (fun r u t H1 locs1 ht hvm hw hB hz1 hk1 hS => hw.elim)
  obtain rfl := hB
  refine vx_catch (name := "java/lang/IllegalArgumentException") hown [] ⟨0, 10, 13, 13⟩ [⟨0, 10, 17, 15⟩] htb (fun z hz => by cases hz) (by decide) (by decide) (hts (.classLink RL 13 "java/lang/IllegalArgumentException") (by decide +kernel)) (va_Nw.use rfl hE.2.2.1.2.1) hc9 hv9 hf9 ?_
  refine lv_astore (lv' := [(4, .ref q9), (0, .ref x), (1, .int a), (2, .int b), (3, .ref oA)]) hx hb dL_approach_13 hl (by decide) rfl (fun ls hl => ?_)
  refine lv_iconst (v := 1) hx hb dL_approach_15 (by decide) ?_
  refine vx_ret ?_
  refine W.widen (k := 1) (n := 6) (Nat.le_of_ble_eq_true rfl) (Nat.le_of_ble_eq_true rfl) ?_
  exact W.iret (v := 1) hx hb hr (fun t ht hW => ⟨⟨1, (), rfl, rfl, trivial⟩, hS.F ht⟩) hS.2.2 dL_approach_16

set_option maxHeartbeats 4000000 in
set_option maxRecDepth 100000 in
theorem c_w_approach_n2 (l : Launch) (hst : l.stackTraces = false) (dC : Nat → ClassId) (dI : Nat → Nat → Nat) (E : Nat → Nat) (x : Nat) (a : Int32) (b : Int32) (oA : Nat) (now : Nat) (fc : Nat) (sz : Nat) (hla1 : ¬ a < 1) (hua1 : ¬ 500 < a) (h : ¬ (¬ b < 0 ∧ ¬ 99 < b)) : vx_Met l yL_approach wsL_approach ({ frames := 8, cells := 1, slots := 6, locals := 126 }) (va_Pc [.ref x, .int a, .int b, .ref oA] (pre dC dI E [(x, .inr (14, [.ref now, .ref fc]))] [] sz)) (va_Qi (fun (r : Int32) (_ : Unit) => r = 1) (fun _ t => True) (va_A [(x, .inr (14, [.ref now, .ref fc]))] sz)) (vx_X (fun _ : Unit => False) (fun _ _ _ => False) (va_A [(x, .inr (14, [.ref now, .ref fc]))] sz)) 1 6 (va_A [(x, .inr (14, [.ref now, .ref fc]))] sz) := by
  refine vx_ofWH (cc := cL_approach) (maxL := 5) (ret := (some .int)) (hh := [(0, 10, 13, 13), (0, 10, 17, 15)]) (by decide) rfl ?_
  intro p e s m args below meth c s₁ B hml hv
  obtain ⟨rfl, hsz, hP, hK, hD0, hE, hZ0⟩ := hv
  have hx := B.exec
  have hb := B.bytes
  have hr := B.returns
  have hts := atoms_spec (ws := wsL_approach) B.pre
  have hown : s.vm.findClass RL = some m.cls := findClass_of_methodNamed B.named
  have hlocks := B.notSynchronized
  have htb := vx_table (x := yL_approach) B (hts (.codeWith yL_approach cL_approach 5 (some .int) [(0, 10, 13, 13), (0, 10, 17, 15)]) List.mem_cons_self)
  subst hsz
  have hD := hD0.self (sz := s.heap.size)
  generalize hAe : va_A [(x, .inr (14, [.ref now, .ref fc]))] s.heap.size = A at hD hZ0 ⊢
  have hZ := hZ0
  have hA : ∀ q : Nat, s.heap.size ≤ q → A q := fun q h => by rw [← hAe]; exact Or.inr h
  have hS : va_S A s.heap s.heap [] := va_S.rf
  have hP : va_P (dC, dI) vwCl [(x, .inr (14, [.ref now, .ref fc]))] s.heap := hP
  have hl := lv_entry ([.ref x, .int a, .int b, .ref oA]) (n := 5) (Nat.le_of_ble_eq_true rfl)
  rw [lg_entry_eq]
  generalize (lg_sl ([.ref x, .int a, .int b, .ref oA]) ++ List.replicate (5 - (lg_sl ([.ref x, .int a, .int b, .ref oA])).length) Slot.unset).toArray = ls at hl ⊢
  have hl : lv_has ls 5 [(0, .ref x), (1, .int a), (2, .int b), (3, .ref oA)] := hl
  refine lv_aload_n hx hb dL_approach_0 rfl (lv_at hl 3 rfl) ?_
  refine lv_iconst (v := 0) hx hb dL_approach_1 (by decide) ?_
  refine lv_aload_n hx hb dL_approach_2 rfl (lv_at hl 0 rfl) ?_
  refine lv_iload_n hx hb dL_approach_3 rfl (lv_at hl 1 rfl) ?_
  refine lv_iload_n hx hb dL_approach_4 rfl (lv_at hl 2 rfl) ?_
  have hPc := hP.sub (ws' := []) [] rfl
  have hDc := hD.sub (ws' := []) [] (by decide) rfl
  have hKc := hK.sub (tys' := []) [] rfl
  have hFc := va_free (wc := []) hD hS hA [] rfl
  refine vx_calli (vx_runV (As := [.int a, .int b]) (rest := [.int 0, .ref oA]) ⟨hx, hb, hml, hown, hts⟩ (c_cx_approach_n2 l hst dC dI E x a b s.heap.size hla1 hua1 h) (cwV 2 hts gL_approach_X8_approach rfl rfl rfl (by decide +kernel) ⟨(Nat.le_of_ble_eq_true rfl), (Nat.le_of_ble_eq_true rfl)⟩) ⟨pre_blind, va_recv hK hP (ci := 14) (q0 := 0) rfl rfl, pre_call hPc hDc hKc hFc hE hZ hS⟩ rfl rfl hl.1 rfl (lv_room (Nat.le_of_ble_eq_true rfl)) dL_approach_5 ⟨(Nat.le_of_ble_eq_true rfl), (Nat.le_of_ble_eq_true rfl)⟩) hS (fun q _ h => hFc q h) hFc (fun q _ h => hFc q h) (fun E9 ce q9 u t H1 locs1 ht hvm hw hB hz1 hk1 hS hc9 hv9 hf9 => ?_) (fun r u t H1 locs1 ht hvm hw hB hz1 hk1 hS => hw.elim)
  obtain rfl := hB
  refine vx_catch (name := "java/lang/IllegalArgumentException") hown [] ⟨0, 10, 13, 13⟩ [⟨0, 10, 17, 15⟩] htb (fun z hz => by cases hz) (by decide) (by decide) (hts (.classLink RL 13 "java/lang/IllegalArgumentException") (by decide +kernel)) (va_Nw.use rfl hE.2.2.1.2.1) hc9 hv9 hf9 ?_
  refine lv_astore (lv' := [(4, .ref q9), (0, .ref x), (1, .int a), (2, .int b), (3, .ref oA)]) hx hb dL_approach_13 hl (by decide) rfl (fun ls hl => ?_)
  refine lv_iconst (v := 1) hx hb dL_approach_15 (by decide) ?_
  refine vx_ret ?_
  refine W.widen (k := 1) (n := 6) (Nat.le_of_ble_eq_true rfl) (Nat.le_of_ble_eq_true rfl) ?_
  exact W.iret (v := 1) hx hb hr (fun t ht hW => ⟨⟨1, (), rfl, rfl, trivial⟩, hS.F ht⟩) hS.2.2 dL_approach_16

set_option maxHeartbeats 4000000 in
set_option maxRecDepth 100000 in
theorem c_w_approach_y (l : Launch) (dC : Nat → ClassId) (dI : Nat → Nat → Nat) (E : Nat → Nat) (x : Nat) (now : Nat) (fc : Nat) (ro : Nat) (hto : Nat) (de : Nat) (cr : Nat) (co : Nat) (sh : Nat) (eo : Nat) (p0 : Nat) (p1 : Nat) (p2 : Nat) (p3 : Nat) (p4 : Nat) (cS0 : ClassId) (cS2 : ClassId) (cS3 : ClassId) (a : Int32) (b : Int32) (oA : Nat) (cJ : ClassId) (fj : Nat → Int64) (sz : Nat) (hla1 : ¬ a < 1) (hua1 : ¬ 500 < a) (hla2 : ¬ b < 0) (hua2 : ¬ 99 < b) : vx_Met l yL_approach wsL_approach ({ frames := 2, cells := 0, slots := 0, locals := 44 }) (va_Pc [.ref x, .int a, .int b, .ref oA] (pre dC dI E [(x, .inr (14, [.ref now, .ref fc])), (now, .inr (13, [.ref ro, .ref hto, .ref de, .ref cr, .ref co, .ref sh, .ref eo, .int 0, .int 0, .int 10, .int 100, .int 50, .int 0, .int 50])), (sh, .inr (12, [.ref p0, .ref p1, .ref p2, .ref p3, .ref p4, .int 0])), (p0, .inl (cS0, 4, .inl (fun _ => 0))), (p2, .inl (cS2, 4, .inl (fun _ => 0))), (p3, .inl (cS3, 4, .inl (fun _ => 0))), (oA, .inl (cJ, 1, .inr (.inl fj)))] [(cS0, .int), (cS2, .int), (cS3, .int), (cJ, .long)] sz)) (va_Qi (fun (r : Int32) (_ : Unit) => r = 0) (fun _ t => ∃ g : Nat → Int64, g 0 = 0 ∧ pst dC dI (va_A [(x, .inr (14, [.ref now, .ref fc])), (now, .inr (13, [.ref ro, .ref hto, .ref de, .ref cr, .ref co, .ref sh, .ref eo, .int 0, .int 0, .int 10, .int 100, .int 50, .int 0, .int 50])), (sh, .inr (12, [.ref p0, .ref p1, .ref p2, .ref p3, .ref p4, .int 0])), (p0, .inl (cS0, 4, .inl (fun _ => 0))), (p2, .inl (cS2, 4, .inl (fun _ => 0))), (p3, .inl (cS3, 4, .inl (fun _ => 0))), (oA, .inl (cJ, 1, .inr (.inl fj)))] sz) [(oA, .inl (cJ, 1, .inr (.inl g)))] [(cJ, .long)] t) (va_A [(x, .inr (14, [.ref now, .ref fc])), (now, .inr (13, [.ref ro, .ref hto, .ref de, .ref cr, .ref co, .ref sh, .ref eo, .int 0, .int 0, .int 10, .int 100, .int 50, .int 0, .int 50])), (sh, .inr (12, [.ref p0, .ref p1, .ref p2, .ref p3, .ref p4, .int 0])), (p0, .inl (cS0, 4, .inl (fun _ => 0))), (p2, .inl (cS2, 4, .inl (fun _ => 0))), (p3, .inl (cS3, 4, .inl (fun _ => 0))), (oA, .inl (cJ, 1, .inr (.inl fj)))] sz)) (vx_X (fun _ : Unit => False) (fun _ _ _ => False) (va_A [(x, .inr (14, [.ref now, .ref fc])), (now, .inr (13, [.ref ro, .ref hto, .ref de, .ref cr, .ref co, .ref sh, .ref eo, .int 0, .int 0, .int 10, .int 100, .int 50, .int 0, .int 50])), (sh, .inr (12, [.ref p0, .ref p1, .ref p2, .ref p3, .ref p4, .int 0])), (p0, .inl (cS0, 4, .inl (fun _ => 0))), (p2, .inl (cS2, 4, .inl (fun _ => 0))), (p3, .inl (cS3, 4, .inl (fun _ => 0))), (oA, .inl (cJ, 1, .inr (.inl fj)))] sz)) 0 0 (va_A [(x, .inr (14, [.ref now, .ref fc])), (now, .inr (13, [.ref ro, .ref hto, .ref de, .ref cr, .ref co, .ref sh, .ref eo, .int 0, .int 0, .int 10, .int 100, .int 50, .int 0, .int 50])), (sh, .inr (12, [.ref p0, .ref p1, .ref p2, .ref p3, .ref p4, .int 0])), (p0, .inl (cS0, 4, .inl (fun _ => 0))), (p2, .inl (cS2, 4, .inl (fun _ => 0))), (p3, .inl (cS3, 4, .inl (fun _ => 0))), (oA, .inl (cJ, 1, .inr (.inl fj)))] sz) := by
  refine vx_ofWH (cc := cL_approach) (maxL := 5) (ret := (some .int)) (hh := [(0, 10, 13, 13), (0, 10, 17, 15)]) (by decide) rfl ?_
  intro p e s m args below meth c s₁ B hml hv
  obtain ⟨rfl, hsz, hP, hK, hD0, hE, hZ0⟩ := hv
  have hx := B.exec
  have hb := B.bytes
  have hr := B.returns
  have hts := atoms_spec (ws := wsL_approach) B.pre
  have hown : s.vm.findClass RL = some m.cls := findClass_of_methodNamed B.named
  have hlocks := B.notSynchronized
  have htb := vx_table (x := yL_approach) B (hts (.codeWith yL_approach cL_approach 5 (some .int) [(0, 10, 13, 13), (0, 10, 17, 15)]) List.mem_cons_self)
  subst hsz
  have hD := hD0.self (sz := s.heap.size)
  generalize hAe : va_A [(x, .inr (14, [.ref now, .ref fc])), (now, .inr (13, [.ref ro, .ref hto, .ref de, .ref cr, .ref co, .ref sh, .ref eo, .int 0, .int 0, .int 10, .int 100, .int 50, .int 0, .int 50])), (sh, .inr (12, [.ref p0, .ref p1, .ref p2, .ref p3, .ref p4, .int 0])), (p0, .inl (cS0, 4, .inl (fun _ => 0))), (p2, .inl (cS2, 4, .inl (fun _ => 0))), (p3, .inl (cS3, 4, .inl (fun _ => 0))), (oA, .inl (cJ, 1, .inr (.inl fj)))] s.heap.size = A at hD hZ0 ⊢
  have hZ := hZ0
  have hA : ∀ q : Nat, s.heap.size ≤ q → A q := fun q h => by rw [← hAe]; exact Or.inr h
  have hS : va_S A s.heap s.heap [] := va_S.rf
  have hP : va_P (dC, dI) vwCl [(x, .inr (14, [.ref now, .ref fc])), (now, .inr (13, [.ref ro, .ref hto, .ref de, .ref cr, .ref co, .ref sh, .ref eo, .int 0, .int 0, .int 10, .int 100, .int 50, .int 0, .int 50])), (sh, .inr (12, [.ref p0, .ref p1, .ref p2, .ref p3, .ref p4, .int 0])), (p0, .inl (cS0, 4, .inl (fun _ => 0))), (p2, .inl (cS2, 4, .inl (fun _ => 0))), (p3, .inl (cS3, 4, .inl (fun _ => 0))), (oA, .inl (cJ, 1, .inr (.inl fj)))] s.heap := hP
  have hl := lv_entry ([.ref x, .int a, .int b, .ref oA]) (n := 5) (Nat.le_of_ble_eq_true rfl)
  rw [lg_entry_eq]
  generalize (lg_sl ([.ref x, .int a, .int b, .ref oA]) ++ List.replicate (5 - (lg_sl ([.ref x, .int a, .int b, .ref oA])).length) Slot.unset).toArray = ls at hl ⊢
  have hl : lv_has ls 5 [(0, .ref x), (1, .int a), (2, .int b), (3, .ref oA)] := hl
  refine lv_aload_n hx hb dL_approach_0 rfl (lv_at hl 3 rfl) ?_
  refine lv_iconst (v := 0) hx hb dL_approach_1 (by decide) ?_
  refine lv_aload_n hx hb dL_approach_2 rfl (lv_at hl 0 rfl) ?_
  refine lv_iload_n hx hb dL_approach_3 rfl (lv_at hl 1 rfl) ?_
  refine lv_iload_n hx hb dL_approach_4 rfl (lv_at hl 2 rfl) ?_
  have hPc := hP.sub (ws' := [(x, .inr (14, [.ref now, .ref fc])), (now, .inr (13, [.ref ro, .ref hto, .ref de, .ref cr, .ref co, .ref sh, .ref eo, .int 0, .int 0, .int 10, .int 100, .int 50, .int 0, .int 50])), (sh, .inr (12, [.ref p0, .ref p1, .ref p2, .ref p3, .ref p4, .int 0])), (p0, .inl (cS0, 4, .inl (fun _ => 0))), (p2, .inl (cS2, 4, .inl (fun _ => 0))), (p3, .inl (cS3, 4, .inl (fun _ => 0)))]) [0, 1, 2, 3, 4, 5] rfl
  have hDc := hD.sub (ws' := [(x, .inr (14, [.ref now, .ref fc])), (now, .inr (13, [.ref ro, .ref hto, .ref de, .ref cr, .ref co, .ref sh, .ref eo, .int 0, .int 0, .int 10, .int 100, .int 50, .int 0, .int 50])), (sh, .inr (12, [.ref p0, .ref p1, .ref p2, .ref p3, .ref p4, .int 0])), (p0, .inl (cS0, 4, .inl (fun _ => 0))), (p2, .inl (cS2, 4, .inl (fun _ => 0))), (p3, .inl (cS3, 4, .inl (fun _ => 0)))]) [0, 1, 2, 3, 4, 5] (by decide) rfl
  have hKc := hK.sub (tys' := [(cS0, .int), (cS2, .int), (cS3, .int)]) [0, 1, 2] rfl
  have hFc := va_free (wc := [(x, .inr (14, [.ref now, .ref fc])), (now, .inr (13, [.ref ro, .ref hto, .ref de, .ref cr, .ref co, .ref sh, .ref eo, .int 0, .int 0, .int 10, .int 100, .int 50, .int 0, .int 50])), (sh, .inr (12, [.ref p0, .ref p1, .ref p2, .ref p3, .ref p4, .int 0])), (p0, .inl (cS0, 4, .inl (fun _ => 0))), (p2, .inl (cS2, 4, .inl (fun _ => 0))), (p3, .inl (cS3, 4, .inl (fun _ => 0)))]) hD hS hA [0, 1, 2, 3, 4, 5] rfl
  refine va_calli (va_runV (As := [.int a, .int b]) (rest := [.int 0, .ref oA]) ⟨hx, hb, hml, hown, hts⟩ (c_cx_approach_y l dC dI E x now fc ro hto de cr co sh eo p0 p1 p2 p3 p4 cS0 cS2 cS3 a b s.heap.size hla1 hua1 hla2 hua2) (cwV 2 hts gL_approach_X8_approach rfl rfl rfl (by decide +kernel) ⟨(Nat.le_of_ble_eq_true rfl), (Nat.le_of_ble_eq_true rfl)⟩) ⟨pre_blind, va_recv hKc hPc (ci := 14) (q0 := 0) rfl rfl, pre_call hPc hDc hKc hFc hE hZ hS⟩ rfl rfl hl.1 rfl (lv_room (Nat.le_of_ble_eq_true rfl)) dL_approach_5 ⟨(Nat.le_of_ble_eq_true rfl), (Nat.le_of_ble_eq_true rfl)⟩) hS (fun q _ h => hFc q h) hFc (fun r u t H1 locs1 ht hvm hw hB hz1 hk1 hS => ?_)
  have hw9 : r = 0 := hw
  rw [hw9]
  obtain ⟨hP, hD, hK⟩ := pst_drop (wc := [(x, .inr (14, [.ref now, .ref fc])), (now, .inr (13, [.ref ro, .ref hto, .ref de, .ref cr, .ref co, .ref sh, .ref eo, .int 0, .int 0, .int 10, .int 100, .int 50, .int 0, .int 50])), (sh, .inr (12, [.ref p0, .ref p1, .ref p2, .ref p3, .ref p4, .int 0])), (p0, .inl (cS0, 4, .inl (fun _ => 0))), (p2, .inl (cS2, 4, .inl (fun _ => 0))), (p3, .inl (cS3, 4, .inl (fun _ => 0)))]) (wr := [(oA, .inl (cJ, 1, .inr (.inl fj)))]) (tr := [(cJ, .long)]) hP hD hK [0, 1, 2, 3, 4, 5] [6] [3] rfl rfl rfl (by decide) (by decide) hk1 hFc
  generalize H1 = H at hP hS ⊢
  have hP : va_P (dC, dI) vwCl [(oA, .inl (cJ, 1, .inr (.inl fj)))] H := hP
  have hD : va_D A [(oA, .inl (cJ, 1, .inr (.inl fj)))] := hD
  have hK : va_K (dC, dI) vwCl [(cJ, .long)] s := hK
  refine W.widen (k := 0) (n := 0) (Nat.le_of_ble_eq_true rfl) (Nat.le_of_ble_eq_true rfl) ?_
  refine lv_i2l (v := 0) hx hb dL_approach_8 (by decide) ?_
  refine va_last hx hb hK hP hD hS 0 0 rfl rfl (by unfold vp_in; decide) dL_approach_9 (fun H locs hP hD hS => ?_)
  have hP : va_P (dC, dI) vwCl [(oA, .inl (cJ, 1, .inr (.inl (vp_updL fj (0 : Int32).toNatClampNeg 0))))] H := hP
  have hD : va_D A [(oA, .inl (cJ, 1, .inr (.inl (vp_updL fj (0 : Int32).toNatClampNeg 0))))] := hD
  obtain ⟨f_3, ef_3⟩ : ∃ y : Nat → Int64, y = vp_updL fj (0 : Int32).toNatClampNeg 0 := ⟨_, rfl⟩
  rw [← ef_3] at hP hD
  have hP : va_P (dC, dI) vwCl [(oA, .inl (cJ, 1, .inr (.inl f_3)))] H := hP
  have hD : va_D A [(oA, .inl (cJ, 1, .inr (.inl f_3)))] := hD
  refine lv_goto (tgt := 21) hx hb dL_approach_10 (by decide) ?_
  refine lv_iconst (v := 0) hx hb dL_approach_21 (by decide) ?_
  have hP9 := hP.sub (ws' := [(oA, .inl (cJ, 1, .inr (.inl f_3)))]) [0] rfl
  have hD9 := hD.sub (ws' := [(oA, .inl (cJ, 1, .inr (.inl f_3)))]) [0] (by decide) rfl
  have hK9 := hK.sub (tys' := [(cJ, .long)]) [0] rfl
  refine vx_ret ?_
  refine W.widen (k := 0) (n := 0) (Nat.le_of_ble_eq_true rfl) (Nat.le_of_ble_eq_true rfl) ?_
  exact W.iret (v := 0) hx hb hr (fun t ht hW => ⟨⟨0, (), rfl, rfl, ⟨f_3, (by rw [ef_3]; exact if_pos (by decide)), pst_of hP9 hD9 hK9 ht hW⟩⟩, hS.F ht⟩) hS.2.2 dL_approach_22

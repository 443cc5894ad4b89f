set_option maxHeartbeats 4000000 in
set_option maxRecDepth 100000 in
theorem c_al_grow1 (l : Launch) (dC : Nat → ClassId) (dI : Nat → Nat → Nat) (E : Nat → Nat) (h : Nat) (md : Int32) (sz : Nat) : Met l yJx4a65c_grow_92f84 wsJx4a65c_grow_92f84 ({ frames := 1, cells := 1, slots := 10, locals := 14 }) (va_Pc [.ref h, .int 1] (pre dC dI E [(h, .inr (5, [.int md, .ref (E 0), .int 0]))] [] sz)) (va_Qr (fun _ : Unit => True) (fun (_ : Unit) (ra : Nat) t => ∃ cA : ClassId, pst dC dI (va_A [(h, .inr (5, [.int md, .ref (E 0), .int 0]))] sz) [(h, .inr (5, [.int md, .ref ra, .int 0])), (ra, .inl (cA, 10, .inr (.inr (.inr (.inr (fun _ => none))))))] [(cA, .object "java/lang/Object")] t) (va_A [(h, .inr (5, [.int md, .ref (E 0), .int 0]))] sz)) 1 10 (va_A [(h, .inr (5, [.int md, .ref (E 0), .int 0]))] sz) := by
  refine Met.ofW (cc := cJx4a65c_grow_92f84) (maxL := 4) (ret := (some (.array (.object "java/lang/Object")))) (by decide) rfl ?_
  intro p e s m args below meth c s₁ B hml hv
  obtain ⟨rfl, hsz, hP, hK, hD0, hE, hZ0⟩ := hv
  have hx := B.exec
  have hb := B.bytes
  have hr := B.returns
  have hts := atoms_spec (ws := wsJx4a65c_grow_92f84) B.pre
  have hown : s.vm.findClass RJx4a65c = some m.cls := findClass_of_methodNamed B.named
  have hlocks := B.notSynchronized
  subst hsz
  have hD := hD0.self (sz := s.heap.size)
  generalize hAe : va_A [(h, .inr (5, [.int md, .ref (E 0), .int 0]))] s.heap.size = A at hD hZ0 ⊢
  have hZ := hZ0
  have hA : ∀ q : Nat, s.heap.size ≤ q → A q := fun q h => by rw [← hAe]; exact Or.inr h
  have hS : va_S A s.heap s.heap [] := va_S.rf
  have hP : va_P (dC, dI) vwCl [(h, .inr (5, [.int md, .ref (E 0), .int 0]))] s.heap := hP
  have hl := lv_entry ([.ref h, .int 1]) (n := 4) (Nat.le_of_ble_eq_true rfl)
  rw [lg_entry_eq]
  generalize (lg_sl ([.ref h, .int 1]) ++ List.replicate (4 - (lg_sl ([.ref h, .int 1])).length) Slot.unset).toArray = ls at hl ⊢
  have hl : lv_has ls 4 [(0, .ref h), (1, .int 1)] := hl
  refine lv_aload_n hx hb dJx4a65c_grow_92f84_0 rfl (lv_at hl 0 rfl) ?_
  refine va_get (D := (dC, dI)) (ci := 5) (v := .ref (E 0)) (C := RJx4a65c) (T := TJx4a65c) (N := 3) hx hb hts (by decide +kernel) hown hK hP 0 rfl rfl 1 (by decide) (hts (.fieldLink RJx4a65c 9 "java/util/ArrayList" "elementData" "[Ljava/lang/Object;") (by decide +kernel)) (fun _ h9 => h9) rfl dJx4a65c_grow_92f84_1 ?_
  refine va_tlen (v := 0) hx hb hZ.1.2.1 hS (by decide) dJx4a65c_grow_92f84_4 ?_
  refine lv_istore_n (lv' := [(2, .int 0), (0, .ref h), (1, .int 1)]) hx hb dJx4a65c_grow_92f84_5 rfl hl (by decide) rfl (fun ls hl => ?_)
  refine lv_iload_n hx hb dJx4a65c_grow_92f84_6 rfl (lv_at hl 0 rfl) ?_
  refine lv_if_gt (tgt := 20) hx hb dJx4a65c_grow_92f84_7 (by decide) (fun c9 => absurd c9 (by decide)) (fun _ => ?_)
  refine lv_aload_n hx hb dJx4a65c_grow_92f84_10 rfl (lv_at hl 1 rfl) ?_
  refine va_get (D := (dC, dI)) (ci := 5) (v := .ref (E 0)) (C := RJx4a65c) (T := TJx4a65c) (N := 3) hx hb hts (by decide +kernel) hown hK hP 0 rfl rfl 1 (by decide) (hts (.fieldLink RJx4a65c 9 "java/util/ArrayList" "elementData" "[Ljava/lang/Object;") (by decide +kernel)) (fun _ h9 => h9) rfl dJx4a65c_grow_92f84_11 ?_
  refine va_gets hx hb hZ.1.1 hS hown (hts (.fieldLink RJx4a65c 39 "java/util/ArrayList" "DEFAULTCAPACITY_EMPTY_ELEMENTDATA" "[Ljava/lang/Object;") (by decide +kernel)) (fun _ h9 => h9) dJx4a65c_grow_92f84_14 ?_
  refine lv_acmp_eq (rx := (some ((E 0)) : Option Nat)) (ry := (some ((E 0)) : Option Nat)) (tgt := 45) hx hb dJx4a65c_grow_92f84_17 (by decide) (fun _ => ?_) (fun c9 => absurd rfl c9)
  refine lv_aload_n hx hb dJx4a65c_grow_92f84_45 rfl (lv_at hl 1 rfl) ?_
  refine lv_bipush (v := 10) hx hb dJx4a65c_grow_92f84_46 (by decide) ?_
  refine lv_iload_n hx hb dJx4a65c_grow_92f84_48 rfl (lv_at hl 2 rfl) ?_
  refine va_mmax hx hb (by rw [hml]; exact hl.1.symm) hown (hts (.methodLink RJx4a65c 79 Lib.Math.max.name) (by decide +kernel)) (hts (.static Lib.Math.max.name) (by decide +kernel)) (hts (.initialized "java/lang/Math") (by decide +kernel)) (hts (.code Lib.Math.max.name Lib.Math.max.code 2 (some .int)) (by decide +kernel)) (Nat.le_of_ble_eq_true rfl) (Nat.le_of_ble_eq_true rfl) (Nat.le_of_ble_eq_true rfl) (Nat.le_of_ble_eq_true rfl) dJx4a65c_grow_92f84_49 ?_
  refine lv_topi (fun z_2 ez_2 => ?_)
  obtain rfl : z_2 = 10 := ez_2.trans (by decide)
  refine va_newq (C := "java/lang/Object") (N' := 10) hx hb hown (hts (.classLink RJx4a65c 7 "java/lang/Object") (by decide +kernel)) hE.2.2.2.1.2.2 hK hP hD hS hA (by decide) (by decide) (Nat.le_of_ble_eq_true rfl) (Nat.le_of_ble_eq_true rfl) (Nat.le_of_ble_eq_true rfl) dJx4a65c_grow_92f84_52 (fun q_3 cA_4 H hK hP hD hS => ?_)
  have hP : va_P (dC, dI) vwCl [(h, .inr (5, [.int md, .ref (E 0), .int 0])), (q_3, .inl (cA_4, 10, .inr (.inr (.inr (.inr (fun _ => none))))))] H := hP
  have hD : va_D A [(h, .inr (5, [.int md, .ref (E 0), .int 0])), (q_3, .inl (cA_4, 10, .inr (.inr (.inr (.inr (fun _ => none))))))] := hD
  have hK : va_K (dC, dI) vwCl [(cA_4, .object "java/lang/Object")] s := hK
  refine W.widen (k := 1) (n := 10) (Nat.le_of_ble_eq_true rfl) (Nat.le_of_ble_eq_true rfl) ?_
  refine lv_dup_x1 hx hb dJx4a65c_grow_92f84_55 rfl rfl ?_
  refine va_put (D := (dC, dI)) (ci := 5) (v := .ref q_3) (ty := .array (.object "java/lang/Object")) (C := RJx4a65c) (T := TJx4a65c) (N := 3) hx hb hts (by decide +kernel) tyJx4a65c tyJx4a65c_ok nmJx4a65c hown hK hP hD hS 0 rfl rfl 1 (by decide) (hts (.fieldLink RJx4a65c 9 "java/util/ArrayList" "elementData" "[Ljava/lang/Object;") (by decide +kernel)) (fun _ h9 => h9) rfl (by decide +kernel) rfl rfl (Nat.le_of_ble_eq_true rfl) dJx4a65c_grow_92f84_56 (fun H locs hP hD hS => ?_)
  have hP : va_P (dC, dI) vwCl [(h, .inr (5, [.int md, .ref q_3, .int 0])), (q_3, .inl (cA_4, 10, .inr (.inr (.inr (.inr (fun _ => none))))))] H := hP
  have hD : va_D A [(h, .inr (5, [.int md, .ref q_3, .int 0])), (q_3, .inl (cA_4, 10, .inr (.inr (.inr (.inr (fun _ => none))))))] := hD
  have hP9 := hP.sub (ws' := [(h, .inr (5, [.int md, .ref q_3, .int 0])), (q_3, .inl (cA_4, 10, .inr (.inr (.inr (.inr (fun _ => none))))))]) [0, 1] rfl
  have hD9 := hD.sub (ws' := [(h, .inr (5, [.int md, .ref q_3, .int 0])), (q_3, .inl (cA_4, 10, .inr (.inr (.inr (.inr (fun _ => none))))))]) [0, 1] (by decide) rfl
  have hK9 := hK.sub (tys' := [(cA_4, .object "java/lang/Object")]) [0] rfl
  refine W.widen (k := 1) (n := 10) (Nat.le_of_ble_eq_true rfl) (Nat.le_of_ble_eq_true rfl) ?_
  exact W.aret (v := .ref q_3) hx hb hr (Or.inr ⟨_, rfl⟩) (Or.inr ⟨_, rfl⟩) (fun t ht hW => ⟨⟨(), q_3, rfl, trivial, ⟨cA_4, pst_of hP9 hD9 hK9 ht hW⟩⟩, hS.F ht⟩) hS.2.2 dJx4a65c_grow_92f84_59

set_option maxHeartbeats 4000000 in
set_option maxRecDepth 100000 in
theorem c_al_grow0 (l : Launch) (dC : Nat → ClassId) (dI : Nat → Nat → Nat) (E : Nat → Nat) (h : Nat) (md : Int32) (sz : Nat) : Met l yJx4a65c_grow_d5877 wsJx4a65c_grow_d5877 ({ frames := 2, cells := 1, slots := 10, locals := 37 }) (va_Pc [.ref h] (pre dC dI E [(h, .inr (5, [.int md, .ref (E 0), .int 0]))] [] sz)) (va_Qr (fun _ : Unit => True) (fun (_ : Unit) (ra : Nat) t => ∃ cA : ClassId, pst dC dI (va_A [(h, .inr (5, [.int md, .ref (E 0), .int 0]))] sz) [(h, .inr (5, [.int md, .ref ra, .int 0])), (ra, .inl (cA, 10, .inr (.inr (.inr (.inr (fun _ => none))))))] [(cA, .object "java/lang/Object")] t) (va_A [(h, .inr (5, [.int md, .ref (E 0), .int 0]))] sz)) 1 10 (va_A [(h, .inr (5, [.int md, .ref (E 0), .int 0]))] sz) := by
  refine Met.ofW (cc := cJx4a65c_grow_d5877) (maxL := 1) (ret := (some (.array (.object "java/lang/Object")))) (by decide) rfl ?_
  intro p e s m args below meth c s₁ B hml hv
  obtain ⟨rfl, hsz, hP, hK, hD0, hE, hZ0⟩ := hv
  have hx := B.exec
  have hb := B.bytes
  have hr := B.returns
  have hts := atoms_spec (ws := wsJx4a65c_grow_d5877) B.pre
  have hown : s.vm.findClass RJx4a65c = some m.cls := findClass_of_methodNamed B.named
  have hlocks := B.notSynchronized
  subst hsz
  have hD := hD0.self (sz := s.heap.size)
  generalize hAe : va_A [(h, .inr (5, [.int md, .ref (E 0), .int 0]))] s.heap.size = A at hD hZ0 ⊢
  have hZ := hZ0
  have hA : ∀ q : Nat, s.heap.size ≤ q → A q := fun q h => by rw [← hAe]; exact Or.inr h
  have hS : va_S A s.heap s.heap [] := va_S.rf
  have hP : va_P (dC, dI) vwCl [(h, .inr (5, [.int md, .ref (E 0), .int 0]))] s.heap := hP
  have hl := lv_entry ([.ref h]) (n := 1) (Nat.le_of_ble_eq_true rfl)
  rw [lg_entry_eq]
  generalize (lg_sl ([.ref h]) ++ List.replicate (1 - (lg_sl ([.ref h])).length) Slot.unset).toArray = ls at hl ⊢
  have hl : lv_has ls 1 [(0, .ref h)] := hl
  refine lv_aload_n hx hb dJx4a65c_grow_d5877_0 rfl (lv_at hl 0 rfl) ?_
  refine lv_aload_n hx hb dJx4a65c_grow_d5877_1 rfl (lv_at hl 0 rfl) ?_
  refine va_get (D := (dC, dI)) (ci := 5) (v := .int 0) (C := RJx4a65c) (T := TJx4a65c) (N := 3) hx hb hts (by decide +kernel) hown hK hP 0 rfl rfl 2 (by decide) (hts (.fieldLink RJx4a65c 48 "java/util/ArrayList" "size" "I") (by decide +kernel)) (fun _ h9 => h9) rfl dJx4a65c_grow_d5877_2 ?_
  refine lv_iconst (v := 1) hx hb dJx4a65c_grow_d5877_5 (by decide) ?_
  refine lv_iadd hx hb dJx4a65c_grow_d5877_6 ?_
  refine lv_topi (fun z_1 ez_1 => ?_)
  obtain rfl : z_1 = 1 := ez_1.trans (by decide)
  have hPc := hP.sub (ws' := [(h, .inr (5, [.int md, .ref (E 0), .int 0]))]) [0] rfl
  have hDc := hD.sub (ws' := [(h, .inr (5, [.int md, .ref (E 0), .int 0]))]) [0] (by decide) rfl
  have hKc := hK.sub (tys' := []) [] rfl
  have hFc := va_free (wc := [(h, .inr (5, [.int md, .ref (E 0), .int 0]))]) hD hS hA [0] rfl
  refine va_callr (va_runV (As := [.int 1]) (rest := []) ⟨hx, hb, hml, hown, hts⟩ (c_al_grow1 l dC dI E h md s.heap.size) (cwV 1 hts gJx4a65c_grow_d5877_Jx4a65c_grow_92f84 rfl rfl rfl (by decide +kernel) ⟨(Nat.le_of_ble_eq_true rfl), (Nat.le_of_ble_eq_true rfl)⟩) ⟨pre_blind, va_recv hKc hPc (ci := 5) (q0 := 0) rfl rfl, pre_call hPc hDc hKc hFc hE hZ hS⟩ rfl rfl hl.1 rfl (lv_room (Nat.le_of_ble_eq_true rfl)) dJx4a65c_grow_d5877_7 ⟨(Nat.le_of_ble_eq_true rfl), (Nat.le_of_ble_eq_true rfl)⟩) hS (fun q _ h => hFc q h) hFc (fun u q_3 t H1 locs1 ht hvm hw hB hz1 hk1 hS => ?_)
  try dsimp only at hB
  obtain ⟨cA_2, hB⟩ := hB
  obtain ⟨hP, hD, hK⟩ := pst_join (wc := [(h, .inr (5, [.int md, .ref (E 0), .int 0]))]) (wr := []) (w1 := [(h, .inr (5, [.int md, .ref q_3, .int 0])), (q_3, .inl (cA_2, 10, .inr (.inr (.inr (.inr (fun _ => none))))))]) (tr := []) (t1 := [(cA_2, .object "java/lang/Object")]) hP hD hK [0] [] [] rfl rfl rfl (by decide) (by decide) hk1 hFc ht hvm hB
  generalize H1 = H at hP hS ⊢
  have hP : va_P (dC, dI) vwCl [(h, .inr (5, [.int md, .ref q_3, .int 0])), (q_3, .inl (cA_2, 10, .inr (.inr (.inr (.inr (fun _ => none))))))] H := hP
  have hD : va_D A [(h, .inr (5, [.int md, .ref q_3, .int 0])), (q_3, .inl (cA_2, 10, .inr (.inr (.inr (.inr (fun _ => none))))))] := hD
  have hK : va_K (dC, dI) vwCl [(cA_2, .object "java/lang/Object")] s := hK
  refine W.widen (k := 1) (n := 10) (Nat.le_of_ble_eq_true rfl) (Nat.le_of_ble_eq_true rfl) ?_
  have hP9 := hP.sub (ws' := [(h, .inr (5, [.int md, .ref q_3, .int 0])), (q_3, .inl (cA_2, 10, .inr (.inr (.inr (.inr (fun _ => none))))))]) [0, 1] rfl
  have hD9 := hD.sub (ws' := [(h, .inr (5, [.int md, .ref q_3, .int 0])), (q_3, .inl (cA_2, 10, .inr (.inr (.inr (.inr (fun _ => none))))))]) [0, 1] (by decide) rfl
  have hK9 := hK.sub (tys' := [(cA_2, .object "java/lang/Object")]) [0] rfl
  refine W.widen (k := 1) (n := 10) (Nat.le_of_ble_eq_true rfl) (Nat.le_of_ble_eq_true rfl) ?_
  exact W.aret (v := .ref q_3) hx hb hr (Or.inr ⟨_, rfl⟩) (Or.inr ⟨_, rfl⟩) (fun t ht hW => ⟨⟨(), q_3, rfl, trivial, ⟨cA_2, pst_of hP9 hD9 hK9 ht hW⟩⟩, hS.F ht⟩) hS.2.2 dJx4a65c_grow_d5877_10

set_option maxHeartbeats 4000000 in
set_option maxRecDepth 100000 in
theorem c_al_add3s (l : Launch) (dC : Nat → ClassId) (dI : Nat → Nat → Nat) (E : Nat → Nat) (h : Nat) (md : Int32) (q : Nat) (sa : Int32) (sb : Int32) (sz : Nat) : Met l yJx4a65c_add_72be8 wsJx4a65c_add_72be8 ({ frames := 3, cells := 1, slots := 10, locals := 57 }) (va_Pc [.ref h, .ref q, .ref (E 0), .int 0] (pre dC dI E [(h, .inr (5, [.int md, .ref (E 0), .int 0])), (q, .inr (19, [.int sa, .int 0, .int 20, .int sb]))] [] sz)) (va_Qv (fun _ : Unit => True) (fun _ t => ∃ ra : Nat, pst dC dI (va_A [(h, .inr (5, [.int md, .ref (E 0), .int 0])), (q, .inr (19, [.int sa, .int 0, .int 20, .int sb]))] sz) [(h, .inr (5, [.int md, .ref ra, .int 1]))] [] t) (va_A [(h, .inr (5, [.int md, .ref (E 0), .int 0])), (q, .inr (19, [.int sa, .int 0, .int 20, .int sb]))] sz)) 1 10 (va_A [(h, .inr (5, [.int md, .ref (E 0), .int 0])), (q, .inr (19, [.int sa, .int 0, .int 20, .int sb]))] sz) := by
  refine Met.ofW (cc := cJx4a65c_add_72be8) (maxL := 4) (ret := none) (by decide) rfl ?_
  intro p e s m args below meth c s₁ B hml hv
  obtain ⟨rfl, hsz, hP, hK, hD0, hE, hZ0⟩ := hv
  have hx := B.exec
  have hb := B.bytes
  have hr := B.returns
  have hts := atoms_spec (ws := wsJx4a65c_add_72be8) B.pre
  have hown : s.vm.findClass RJx4a65c = some m.cls := findClass_of_methodNamed B.named
  have hlocks := B.notSynchronized
  subst hsz
  have hD := hD0.self (sz := s.heap.size)
  generalize hAe : va_A [(h, .inr (5, [.int md, .ref (E 0), .int 0])), (q, .inr (19, [.int sa, .int 0, .int 20, .int sb]))] s.heap.size = A at hD hZ0 ⊢
  have hZ := hZ0
  have hA : ∀ q : Nat, s.heap.size ≤ q → A q := fun q h => by rw [← hAe]; exact Or.inr h
  have hS : va_S A s.heap s.heap [] := va_S.rf
  have hP : va_P (dC, dI) vwCl [(h, .inr (5, [.int md, .ref (E 0), .int 0])), (q, .inr (19, [.int sa, .int 0, .int 20, .int sb]))] s.heap := hP
  have hl := lv_entry ([.ref h, .ref q, .ref (E 0), .int 0]) (n := 4) (Nat.le_of_ble_eq_true rfl)
  rw [lg_entry_eq]
  generalize (lg_sl ([.ref h, .ref q, .ref (E 0), .int 0]) ++ List.replicate (4 - (lg_sl ([.ref h, .ref q, .ref (E 0), .int 0])).length) Slot.unset).toArray = ls at hl ⊢
  have hl : lv_has ls 4 [(0, .ref h), (1, .ref q), (2, .ref (E 0)), (3, .int 0)] := hl
  refine lv_iload_n hx hb dJx4a65c_add_72be8_0 rfl (lv_at hl 3 rfl) ?_
  refine lv_aload_n hx hb dJx4a65c_add_72be8_1 rfl (lv_at hl 2 rfl) ?_
  refine va_tlen (v := 0) hx hb hZ.1.2.1 hS (by decide) dJx4a65c_add_72be8_2 ?_
  refine lv_icmp_ne (tgt := 11) hx hb dJx4a65c_add_72be8_3 (by decide) (fun c9 => absurd (by decide) c9) (fun _ => ?_)
  refine lv_aload_n hx hb dJx4a65c_add_72be8_6 rfl (lv_at hl 0 rfl) ?_
  have hPc := hP.sub (ws' := [(h, .inr (5, [.int md, .ref (E 0), .int 0]))]) [0] rfl
  have hDc := hD.sub (ws' := [(h, .inr (5, [.int md, .ref (E 0), .int 0]))]) [0] (by decide) rfl
  have hKc := hK.sub (tys' := []) [] rfl
  have hFc := va_free (wc := [(h, .inr (5, [.int md, .ref (E 0), .int 0]))]) hD hS hA [0] rfl
  refine va_callr (va_runV (As := []) (rest := []) ⟨hx, hb, hml, hown, hts⟩ (c_al_grow0 l dC dI E h md s.heap.size) (cwV 0 hts gJx4a65c_add_72be8_Jx4a65c_grow_d5877 rfl rfl rfl (by decide +kernel) ⟨(Nat.le_of_ble_eq_true rfl), (Nat.le_of_ble_eq_true rfl)⟩) ⟨pre_blind, va_recv hKc hPc (ci := 5) (q0 := 0) rfl rfl, pre_call hPc hDc hKc hFc hE hZ hS⟩ rfl rfl hl.1 rfl (lv_room (Nat.le_of_ble_eq_true rfl)) dJx4a65c_add_72be8_7 ⟨(Nat.le_of_ble_eq_true rfl), (Nat.le_of_ble_eq_true rfl)⟩) hS (fun q _ h => hFc q h) hFc (fun u q_3 t H1 locs1 ht hvm hw hB hz1 hk1 hS => ?_)
  try dsimp only at hB
  obtain ⟨cA_2, hB⟩ := hB
  obtain ⟨hP, hD, hK⟩ := pst_join (wc := [(h, .inr (5, [.int md, .ref (E 0), .int 0]))]) (wr := [(q, .inr (19, [.int sa, .int 0, .int 20, .int sb]))]) (w1 := [(h, .inr (5, [.int md, .ref q_3, .int 0])), (q_3, .inl (cA_2, 10, .inr (.inr (.inr (.inr (fun _ => none))))))]) (tr := []) (t1 := [(cA_2, .object "java/lang/Object")]) hP hD hK [0] [1] [] rfl rfl rfl (by decide) (by decide) hk1 hFc ht hvm hB
  generalize H1 = H at hP hS ⊢
  have hP : va_P (dC, dI) vwCl [(q, .inr (19, [.int sa, .int 0, .int 20, .int sb])), (h, .inr (5, [.int md, .ref q_3, .int 0])), (q_3, .inl (cA_2, 10, .inr (.inr (.inr (.inr (fun _ => none))))))] H := hP
  have hD : va_D A [(q, .inr (19, [.int sa, .int 0, .int 20, .int sb])), (h, .inr (5, [.int md, .ref q_3, .int 0])), (q_3, .inl (cA_2, 10, .inr (.inr (.inr (.inr (fun _ => none))))))] := hD
  have hK : va_K (dC, dI) vwCl [(cA_2, .object "java/lang/Object")] s := hK
  refine W.widen (k := 1) (n := 10) (Nat.le_of_ble_eq_true rfl) (Nat.le_of_ble_eq_true rfl) ?_
  refine lv_astore_n (lv' := [(2, .ref q_3), (0, .ref h), (1, .ref q), (3, .int 0)]) hx hb dJx4a65c_add_72be8_10 rfl hl (by decide) rfl (fun ls hl => ?_)
  refine lv_aload_n hx hb dJx4a65c_add_72be8_11 rfl (lv_at hl 0 rfl) ?_
  refine lv_iload_n hx hb dJx4a65c_add_72be8_12 rfl (lv_at hl 3 rfl) ?_
  refine lv_aload_n hx hb dJx4a65c_add_72be8_13 rfl (lv_at hl 2 rfl) ?_
  refine va_astqO hx hb hK hP hD hS 2 0 0 19 (r := (RX13, TX13, 4)) rfl rfl hE.2.2.1.2.2.2.2.2.2.2.1 rfl rfl (by unfold vp_in; decide) dJx4a65c_add_72be8_14 (fun H locs hP hD hS => ?_)
  have hP : va_P (dC, dI) vwCl [(q, .inr (19, [.int sa, .int 0, .int 20, .int sb])), (h, .inr (5, [.int md, .ref q_3, .int 0])), (q_3, .inl (cA_2, 10, .inr (.inr (.inr (.inr (va_up (fun _ => none) (0 : Int32).toNatClampNeg (some q)))))))] H := hP
  have hD : va_D A [(q, .inr (19, [.int sa, .int 0, .int 20, .int sb])), (h, .inr (5, [.int md, .ref q_3, .int 0])), (q_3, .inl (cA_2, 10, .inr (.inr (.inr (.inr (va_up (fun _ => none) (0 : Int32).toNatClampNeg (some q)))))))] := hD
  obtain ⟨f_5, ef_5⟩ : ∃ y : Nat → Option Nat, y = va_up (fun _ => none) (0 : Int32).toNatClampNeg (some q) := ⟨_, rfl⟩
  rw [← ef_5] at hP hD
  have hP : va_P (dC, dI) vwCl [(q, .inr (19, [.int sa, .int 0, .int 20, .int sb])), (h, .inr (5, [.int md, .ref q_3, .int 0])), (q_3, .inl (cA_2, 10, .inr (.inr (.inr (.inr f_5)))))] H := hP
  have hD : va_D A [(q, .inr (19, [.int sa, .int 0, .int 20, .int sb])), (h, .inr (5, [.int md, .ref q_3, .int 0])), (q_3, .inl (cA_2, 10, .inr (.inr (.inr (.inr f_5)))))] := hD
  refine lv_aload_n hx hb dJx4a65c_add_72be8_15 rfl (lv_at hl 1 rfl) ?_
  refine lv_iload_n hx hb dJx4a65c_add_72be8_16 rfl (lv_at hl 3 rfl) ?_
  refine lv_iconst (v := 1) hx hb dJx4a65c_add_72be8_17 (by decide) ?_
  refine lv_iadd hx hb dJx4a65c_add_72be8_18 ?_
  refine lv_topi (fun z_6 ez_6 => ?_)
  obtain rfl : z_6 = 1 := ez_6.trans (by decide)
  refine va_put (D := (dC, dI)) (ci := 5) (v := .int 1) (ty := .int) (C := RJx4a65c) (T := TJx4a65c) (N := 3) hx hb hts (by decide +kernel) tyJx4a65c tyJx4a65c_ok nmJx4a65c hown hK hP hD hS 1 rfl rfl 2 (by decide) (hts (.fieldLink RJx4a65c 48 "java/util/ArrayList" "size" "I") (by decide +kernel)) (fun _ h9 => h9) rfl (by decide +kernel) rfl rfl (Nat.le_of_ble_eq_true rfl) dJx4a65c_add_72be8_19 (fun H locs hP hD hS => ?_)
  have hP : va_P (dC, dI) vwCl [(q, .inr (19, [.int sa, .int 0, .int 20, .int sb])), (h, .inr (5, [.int md, .ref q_3, .int 1])), (q_3, .inl (cA_2, 10, .inr (.inr (.inr (.inr f_5)))))] H := hP
  have hD : va_D A [(q, .inr (19, [.int sa, .int 0, .int 20, .int sb])), (h, .inr (5, [.int md, .ref q_3, .int 1])), (q_3, .inl (cA_2, 10, .inr (.inr (.inr (.inr f_5)))))] := hD
  have hP9 := hP.sub (ws' := [(h, .inr (5, [.int md, .ref q_3, .int 1]))]) [1] rfl
  have hD9 := hD.sub (ws' := [(h, .inr (5, [.int md, .ref q_3, .int 1]))]) [1] (by decide) rfl
  have hK9 := hK.sub (tys' := []) [] rfl
  refine W.widen (k := 1) (n := 10) (Nat.le_of_ble_eq_true rfl) (Nat.le_of_ble_eq_true rfl) ?_
  exact W.vret hx hb hr (fun t ht hW => ⟨⟨(), rfl, trivial, ⟨q_3, pst_of hP9 hD9 hK9 ht hW⟩⟩, hS.F ht⟩) hS.2.2 dJx4a65c_add_72be8_22

set_option maxHeartbeats 4000000 in
set_option maxRecDepth 100000 in
theorem c_al_add1s (l : Launch) (dC : Nat → ClassId) (dI : Nat → Nat → Nat) (E : Nat → Nat) (h : Nat) (q : Nat) (sa : Int32) (sb : Int32) (sz : Nat) : Met l yJx4a65c_add_9ea2d wsJx4a65c_add_9ea2d ({ frames := 4, cells := 1, slots := 10, locals := 80 }) (va_Pc [.ref h, .ref q] (pre dC dI E [(h, .inr (5, [.int 0, .ref (E 0), .int 0])), (q, .inr (19, [.int sa, .int 0, .int 20, .int sb]))] [] sz)) (va_Qi (fun (r : Int32) (_ : Unit) => r = 1) (fun _ t => ∃ ra : Nat, pst dC dI (va_A [(h, .inr (5, [.int 0, .ref (E 0), .int 0])), (q, .inr (19, [.int sa, .int 0, .int 20, .int sb]))] sz) [(h, .inr (5, [.int 1, .ref ra, .int 1]))] [] t) (va_A [(h, .inr (5, [.int 0, .ref (E 0), .int 0])), (q, .inr (19, [.int sa, .int 0, .int 20, .int sb]))] sz)) 1 10 (va_A [(h, .inr (5, [.int 0, .ref (E 0), .int 0])), (q, .inr (19, [.int sa, .int 0, .int 20, .int sb]))] sz) := by
  refine Met.ofW (cc := cJx4a65c_add_9ea2d) (maxL := 2) (ret := (some .boolean)) (by decide) rfl ?_
  intro p e s m args below meth c s₁ B hml hv
  obtain ⟨rfl, hsz, hP, hK, hD0, hE, hZ0⟩ := hv
  have hx := B.exec
  have hb := B.bytes
  have hr := B.returns
  have hts := atoms_spec (ws := wsJx4a65c_add_9ea2d) B.pre
  have hown : s.vm.findClass RJx4a65c = some m.cls := findClass_of_methodNamed B.named
  have hlocks := B.notSynchronized
  subst hsz
  have hD := hD0.self (sz := s.heap.size)
  generalize hAe : va_A [(h, .inr (5, [.int 0, .ref (E 0), .int 0])), (q, .inr (19, [.int sa, .int 0, .int 20, .int sb]))] s.heap.size = A at hD hZ0 ⊢
  have hZ := hZ0
  have hA : ∀ q : Nat, s.heap.size ≤ q → A q := fun q h => by rw [← hAe]; exact Or.inr h
  have hS : va_S A s.heap s.heap [] := va_S.rf
  have hP : va_P (dC, dI) vwCl [(h, .inr (5, [.int 0, .ref (E 0), .int 0])), (q, .inr (19, [.int sa, .int 0, .int 20, .int sb]))] s.heap := hP
  have hl := lv_entry ([.ref h, .ref q]) (n := 2) (Nat.le_of_ble_eq_true rfl)
  rw [lg_entry_eq]
  generalize (lg_sl ([.ref h, .ref q]) ++ List.replicate (2 - (lg_sl ([.ref h, .ref q])).length) Slot.unset).toArray = ls at hl ⊢
  have hl : lv_has ls 2 [(0, .ref h), (1, .ref q)] := hl
  refine lv_aload_n hx hb dJx4a65c_add_9ea2d_0 rfl (lv_at hl 0 rfl) ?_
  refine lv_dup hx hb dJx4a65c_add_9ea2d_1 rfl ?_
  refine va_get (D := (dC, dI)) (ci := 5) (v := .int 0) (C := RJx4a65c) (T := TJx4a65c) (N := 3) hx hb hts (by decide +kernel) hown hK hP 0 rfl rfl 0 (by decide) (hts (.fieldLink RJx4a65c 63 "java/util/ArrayList" "modCount" "I") (by decide +kernel)) (u_same (hts (.sameField "java/util/ArrayList" "java/util/AbstractList" "modCount" "I") (by decide +kernel))) rfl dJx4a65c_add_9ea2d_2 ?_
  refine lv_iconst (v := 1) hx hb dJx4a65c_add_9ea2d_5 (by decide) ?_
  refine lv_iadd hx hb dJx4a65c_add_9ea2d_6 ?_
  refine lv_topi (fun z_1 ez_1 => ?_)
  obtain rfl : z_1 = 1 := ez_1.trans (by decide)
  refine va_put (D := (dC, dI)) (ci := 5) (v := .int 1) (ty := .int) (C := RJx4a65c) (T := TJx4a65c) (N := 3) hx hb hts (by decide +kernel) tyJx4a65c tyJx4a65c_ok nmJx4a65c hown hK hP hD hS 0 rfl rfl 0 (by decide) (hts (.fieldLink RJx4a65c 63 "java/util/ArrayList" "modCount" "I") (by decide +kernel)) (u_same (hts (.sameField "java/util/ArrayList" "java/util/AbstractList" "modCount" "I") (by decide +kernel))) rfl (by decide +kernel) rfl rfl (Nat.le_of_ble_eq_true rfl) dJx4a65c_add_9ea2d_7 (fun H locs hP hD hS => ?_)
  have hP : va_P (dC, dI) vwCl [(h, .inr (5, [.int 1, .ref (E 0), .int 0])), (q, .inr (19, [.int sa, .int 0, .int 20, .int sb]))] H := hP
  have hD : va_D A [(h, .inr (5, [.int 1, .ref (E 0), .int 0])), (q, .inr (19, [.int sa, .int 0, .int 20, .int sb]))] := hD
  refine lv_aload_n hx hb dJx4a65c_add_9ea2d_10 rfl (lv_at hl 0 rfl) ?_
  refine lv_aload_n hx hb dJx4a65c_add_9ea2d_11 rfl (lv_at hl 1 rfl) ?_
  refine lv_aload_n hx hb dJx4a65c_add_9ea2d_12 rfl (lv_at hl 0 rfl) ?_
  refine va_get (D := (dC, dI)) (ci := 5) (v := .ref (E 0)) (C := RJx4a65c) (T := TJx4a65c) (N := 3) hx hb hts (by decide +kernel) hown hK hP 0 rfl rfl 1 (by decide) (hts (.fieldLink RJx4a65c 9 "java/util/ArrayList" "elementData" "[Ljava/lang/Object;") (by decide +kernel)) (fun _ h9 => h9) rfl dJx4a65c_add_9ea2d_13 ?_
  refine lv_aload_n hx hb dJx4a65c_add_9ea2d_16 rfl (lv_at hl 0 rfl) ?_
  refine va_get (D := (dC, dI)) (ci := 5) (v := .int 0) (C := RJx4a65c) (T := TJx4a65c) (N := 3) hx hb hts (by decide +kernel) hown hK hP 0 rfl rfl 2 (by decide) (hts (.fieldLink RJx4a65c 48 "java/util/ArrayList" "size" "I") (by decide +kernel)) (fun _ h9 => h9) rfl dJx4a65c_add_9ea2d_17 ?_
  have hPc := hP.sub (ws' := [(h, .inr (5, [.int 1, .ref (E 0), .int 0])), (q, .inr (19, [.int sa, .int 0, .int 20, .int sb]))]) [0, 1] rfl
  have hDc := hD.sub (ws' := [(h, .inr (5, [.int 1, .ref (E 0), .int 0])), (q, .inr (19, [.int sa, .int 0, .int 20, .int sb]))]) [0, 1] (by decide) rfl
  have hKc := hK.sub (tys' := []) [] rfl
  have hFc := va_free (wc := [(h, .inr (5, [.int 1, .ref (E 0), .int 0])), (q, .inr (19, [.int sa, .int 0, .int 20, .int sb]))]) hD hS hA [0, 1] rfl
  refine va_callv (va_runV (As := [.ref q, .ref (E 0), .int 0]) (rest := []) ⟨hx, hb, hml, hown, hts⟩ (c_al_add3s l dC dI E h 1 q sa sb H.size) (cwV 3 hts gJx4a65c_add_9ea2d_Jx4a65c_add_72be8 rfl rfl rfl (by decide +kernel) ⟨(Nat.le_of_ble_eq_true rfl), (Nat.le_of_ble_eq_true rfl)⟩) ⟨pre_blind, va_recv hKc hPc (ci := 5) (q0 := 0) rfl rfl, pre_call hPc hDc hKc hFc hE hZ hS⟩ rfl rfl hl.1 rfl (lv_room (Nat.le_of_ble_eq_true rfl)) dJx4a65c_add_9ea2d_20 ⟨(Nat.le_of_ble_eq_true rfl), (Nat.le_of_ble_eq_true rfl)⟩) hS (fun q _ h => hFc q h) hFc (fun u t H1 locs1 ht hvm hw hB hz1 hk1 hS => ?_)
  obtain ⟨ra_2, hB⟩ := hB
  obtain ⟨hP, hD, hK⟩ := pst_join (wc := [(h, .inr (5, [.int 1, .ref (E 0), .int 0])), (q, .inr (19, [.int sa, .int 0, .int 20, .int sb]))]) (wr := []) (w1 := [(h, .inr (5, [.int 1, .ref ra_2, .int 1]))]) (tr := []) (t1 := []) hP hD hK [0, 1] [] [] rfl rfl rfl (by decide) (by decide) hk1 hFc ht hvm hB
  generalize H1 = H at hP hS ⊢
  have hP : va_P (dC, dI) vwCl [(h, .inr (5, [.int 1, .ref ra_2, .int 1]))] H := hP
  have hD : va_D A [(h, .inr (5, [.int 1, .ref ra_2, .int 1]))] := hD
  have hK : va_K (dC, dI) vwCl [] s := hK
  refine W.widen (k := 1) (n := 10) (Nat.le_of_ble_eq_true rfl) (Nat.le_of_ble_eq_true rfl) ?_
  refine lv_iconst (v := 1) hx hb dJx4a65c_add_9ea2d_23 (by decide) ?_
  have hP9 := hP.sub (ws' := [(h, .inr (5, [.int 1, .ref ra_2, .int 1]))]) [0] rfl
  have hD9 := hD.sub (ws' := [(h, .inr (5, [.int 1, .ref ra_2, .int 1]))]) [0] (by decide) rfl
  have hK9 := hK.sub (tys' := []) [] rfl
  refine W.widen (k := 1) (n := 10) (Nat.le_of_ble_eq_true rfl) (Nat.le_of_ble_eq_true rfl) ?_
  exact W.zret (v := 1) hx hb hr rfl (fun t ht hW => ⟨⟨1, (), rfl, rfl, ⟨ra_2, pst_of hP9 hD9 hK9 ht hW⟩⟩, hS.F ht⟩) hS.2.2 dJx4a65c_add_9ea2d_24

set_option maxHeartbeats 4000000 in
set_option maxRecDepth 100000 in
theorem c_al_add3n (l : Launch) (dC : Nat → ClassId) (dI : Nat → Nat → Nat) (E : Nat → Nat) (h : Nat) (md : Int32) (q : Nat) (iv : Int32) (sz : Nat) : Met l yJx4a65c_add_72be8 wsJx4a65c_add_72be8 ({ frames := 3, cells := 1, slots := 10, locals := 57 }) (va_Pc [.ref h, .ref q, .ref (E 0), .int 0] (pre dC dI E [(h, .inr (5, [.int md, .ref (E 0), .int 0])), (q, .inr (1, [.int iv]))] [] sz)) (va_Qv (fun _ : Unit => True) (fun _ t => ∃ ra : Nat, pst dC dI (va_A [(h, .inr (5, [.int md, .ref (E 0), .int 0])), (q, .inr (1, [.int iv]))] sz) [(h, .inr (5, [.int md, .ref ra, .int 1]))] [] t) (va_A [(h, .inr (5, [.int md, .ref (E 0), .int 0])), (q, .inr (1, [.int iv]))] sz)) 1 10 (va_A [(h, .inr (5, [.int md, .ref (E 0), .int 0])), (q, .inr (1, [.int iv]))] sz) := by
  refine Met.ofW (cc := cJx4a65c_add_72be8) (maxL := 4) (ret := none) (by decide) rfl ?_
  intro p e s m args below meth c s₁ B hml hv
  obtain ⟨rfl, hsz, hP, hK, hD0, hE, hZ0⟩ := hv
  have hx := B.exec
  have hb := B.bytes
  have hr := B.returns
  have hts := atoms_spec (ws := wsJx4a65c_add_72be8) B.pre
  have hown : s.vm.findClass RJx4a65c = some m.cls := findClass_of_methodNamed B.named
  have hlocks := B.notSynchronized
  subst hsz
  have hD := hD0.self (sz := s.heap.size)
  generalize hAe : va_A [(h, .inr (5, [.int md, .ref (E 0), .int 0])), (q, .inr (1, [.int iv]))] s.heap.size = A at hD hZ0 ⊢
  have hZ := hZ0
  have hA : ∀ q : Nat, s.heap.size ≤ q → A q := fun q h => by rw [← hAe]; exact Or.inr h
  have hS : va_S A s.heap s.heap [] := va_S.rf
  have hP : va_P (dC, dI) vwCl [(h, .inr (5, [.int md, .ref (E 0), .int 0])), (q, .inr (1, [.int iv]))] s.heap := hP
  have hl := lv_entry ([.ref h, .ref q, .ref (E 0), .int 0]) (n := 4) (Nat.le_of_ble_eq_true rfl)
  rw [lg_entry_eq]
  generalize (lg_sl ([.ref h, .ref q, .ref (E 0), .int 0]) ++ List.replicate (4 - (lg_sl ([.ref h, .ref q, .ref (E 0), .int 0])).length) Slot.unset).toArray = ls at hl ⊢
  have hl : lv_has ls 4 [(0, .ref h), (1, .ref q), (2, .ref (E 0)), (3, .int 0)] := hl
  refine lv_iload_n hx hb dJx4a65c_add_72be8_0 rfl (lv_at hl 3 rfl) ?_
  refine lv_aload_n hx hb dJx4a65c_add_72be8_1 rfl (lv_at hl 2 rfl) ?_
  refine va_tlen (v := 0) hx hb hZ.1.2.1 hS (by decide) dJx4a65c_add_72be8_2 ?_
  refine lv_icmp_ne (tgt := 11) hx hb dJx4a65c_add_72be8_3 (by decide) (fun c9 => absurd (by decide) c9) (fun _ => ?_)
  refine lv_aload_n hx hb dJx4a65c_add_72be8_6 rfl (lv_at hl 0 rfl) ?_
  have hPc := hP.sub (ws' := [(h, .inr (5, [.int md, .ref (E 0), .int 0]))]) [0] rfl
  have hDc := hD.sub (ws' := [(h, .inr (5, [.int md, .ref (E 0), .int 0]))]) [0] (by decide) rfl
  have hKc := hK.sub (tys' := []) [] rfl
  have hFc := va_free (wc := [(h, .inr (5, [.int md, .ref (E 0), .int 0]))]) hD hS hA [0] rfl
  refine va_callr (va_runV (As := []) (rest := []) ⟨hx, hb, hml, hown, hts⟩ (c_al_grow0 l dC dI E h md s.heap.size) (cwV 0 hts gJx4a65c_add_72be8_Jx4a65c_grow_d5877 rfl rfl rfl (by decide +kernel) ⟨(Nat.le_of_ble_eq_true rfl), (Nat.le_of_ble_eq_true rfl)⟩) ⟨pre_blind, va_recv hKc hPc (ci := 5) (q0 := 0) rfl rfl, pre_call hPc hDc hKc hFc hE hZ hS⟩ rfl rfl hl.1 rfl (lv_room (Nat.le_of_ble_eq_true rfl)) dJx4a65c_add_72be8_7 ⟨(Nat.le_of_ble_eq_true rfl), (Nat.le_of_ble_eq_true rfl)⟩) hS (fun q _ h => hFc q h) hFc (fun u q_3 t H1 locs1 ht hvm hw hB hz1 hk1 hS => ?_)
  try dsimp only at hB
  obtain ⟨cA_2, hB⟩ := hB
  obtain ⟨hP, hD, hK⟩ := pst_join (wc := [(h, .inr (5, [.int md, .ref (E 0), .int 0]))]) (wr := [(q, .inr (1, [.int iv]))]) (w1 := [(h, .inr (5, [.int md, .ref q_3, .int 0])), (q_3, .inl (cA_2, 10, .inr (.inr (.inr (.inr (fun _ => none))))))]) (tr := []) (t1 := [(cA_2, .object "java/lang/Object")]) hP hD hK [0] [1] [] rfl rfl rfl (by decide) (by decide) hk1 hFc ht hvm hB
  generalize H1 = H at hP hS ⊢
  have hP : va_P (dC, dI) vwCl [(q, .inr (1, [.int iv])), (h, .inr (5, [.int md, .ref q_3, .int 0])), (q_3, .inl (cA_2, 10, .inr (.inr (.inr (.inr (fun _ => none))))))] H := hP
  have hD : va_D A [(q, .inr (1, [.int iv])), (h, .inr (5, [.int md, .ref q_3, .int 0])), (q_3, .inl (cA_2, 10, .inr (.inr (.inr (.inr (fun _ => none))))))] := hD
  have hK : va_K (dC, dI) vwCl [(cA_2, .object "java/lang/Object")] s := hK
  refine W.widen (k := 1) (n := 10) (Nat.le_of_ble_eq_true rfl) (Nat.le_of_ble_eq_true rfl) ?_
  refine lv_astore_n (lv' := [(2, .ref q_3), (0, .ref h), (1, .ref q), (3, .int 0)]) hx hb dJx4a65c_add_72be8_10 rfl hl (by decide) rfl (fun ls hl => ?_)
  refine lv_aload_n hx hb dJx4a65c_add_72be8_11 rfl (lv_at hl 0 rfl) ?_
  refine lv_iload_n hx hb dJx4a65c_add_72be8_12 rfl (lv_at hl 3 rfl) ?_
  refine lv_aload_n hx hb dJx4a65c_add_72be8_13 rfl (lv_at hl 2 rfl) ?_
  refine va_astqO hx hb hK hP hD hS 2 0 0 1 (r := (RJ6, TJ6, 1)) rfl rfl hE.2.2.1.2.2.2.2.2.2.1 rfl rfl (by unfold vp_in; decide) dJx4a65c_add_72be8_14 (fun H locs hP hD hS => ?_)
  have hP : va_P (dC, dI) vwCl [(q, .inr (1, [.int iv])), (h, .inr (5, [.int md, .ref q_3, .int 0])), (q_3, .inl (cA_2, 10, .inr (.inr (.inr (.inr (va_up (fun _ => none) (0 : Int32).toNatClampNeg (some q)))))))] H := hP
  have hD : va_D A [(q, .inr (1, [.int iv])), (h, .inr (5, [.int md, .ref q_3, .int 0])), (q_3, .inl (cA_2, 10, .inr (.inr (.inr (.inr (va_up (fun _ => none) (0 : Int32).toNatClampNeg (some q)))))))] := hD
  obtain ⟨f_5, ef_5⟩ : ∃ y : Nat → Option Nat, y = va_up (fun _ => none) (0 : Int32).toNatClampNeg (some q) := ⟨_, rfl⟩
  rw [← ef_5] at hP hD
  have hP : va_P (dC, dI) vwCl [(q, .inr (1, [.int iv])), (h, .inr (5, [.int md, .ref q_3, .int 0])), (q_3, .inl (cA_2, 10, .inr (.inr (.inr (.inr f_5)))))] H := hP
  have hD : va_D A [(q, .inr (1, [.int iv])), (h, .inr (5, [.int md, .ref q_3, .int 0])), (q_3, .inl (cA_2, 10, .inr (.inr (.inr (.inr f_5)))))] := hD
  refine lv_aload_n hx hb dJx4a65c_add_72be8_15 rfl (lv_at hl 1 rfl) ?_
  refine lv_iload_n hx hb dJx4a65c_add_72be8_16 rfl (lv_at hl 3 rfl) ?_
  refine lv_iconst (v := 1) hx hb dJx4a65c_add_72be8_17 (by decide) ?_
  refine lv_iadd hx hb dJx4a65c_add_72be8_18 ?_
  refine lv_topi (fun z_6 ez_6 => ?_)
  obtain rfl : z_6 = 1 := ez_6.trans (by decide)
  refine va_put (D := (dC, dI)) (ci := 5) (v := .int 1) (ty := .int) (C := RJx4a65c) (T := TJx4a65c) (N := 3) hx hb hts (by decide +kernel) tyJx4a65c tyJx4a65c_ok nmJx4a65c hown hK hP hD hS 1 rfl rfl 2 (by decide) (hts (.fieldLink RJx4a65c 48 "java/util/ArrayList" "size" "I") (by decide +kernel)) (fun _ h9 => h9) rfl (by decide +kernel) rfl rfl (Nat.le_of_ble_eq_true rfl) dJx4a65c_add_72be8_19 (fun H locs hP hD hS => ?_)
  have hP : va_P (dC, dI) vwCl [(q, .inr (1, [.int iv])), (h, .inr (5, [.int md, .ref q_3, .int 1])), (q_3, .inl (cA_2, 10, .inr (.inr (.inr (.inr f_5)))))] H := hP
  have hD : va_D A [(q, .inr (1, [.int iv])), (h, .inr (5, [.int md, .ref q_3, .int 1])), (q_3, .inl (cA_2, 10, .inr (.inr (.inr (.inr f_5)))))] := hD
  have hP9 := hP.sub (ws' := [(h, .inr (5, [.int md, .ref q_3, .int 1]))]) [1] rfl
  have hD9 := hD.sub (ws' := [(h, .inr (5, [.int md, .ref q_3, .int 1]))]) [1] (by decide) rfl
  have hK9 := hK.sub (tys' := []) [] rfl
  refine W.widen (k := 1) (n := 10) (Nat.le_of_ble_eq_true rfl) (Nat.le_of_ble_eq_true rfl) ?_
  exact W.vret hx hb hr (fun t ht hW => ⟨⟨(), rfl, trivial, ⟨q_3, pst_of hP9 hD9 hK9 ht hW⟩⟩, hS.F ht⟩) hS.2.2 dJx4a65c_add_72be8_22

set_option maxHeartbeats 4000000 in
set_option maxRecDepth 100000 in
theorem c_al_add1n (l : Launch) (dC : Nat → ClassId) (dI : Nat → Nat → Nat) (E : Nat → Nat) (h : Nat) (q : Nat) (iv : Int32) (sz : Nat) : Met l yJx4a65c_add_9ea2d wsJx4a65c_add_9ea2d ({ frames := 4, cells := 1, slots := 10, locals := 80 }) (va_Pc [.ref h, .ref q] (pre dC dI E [(h, .inr (5, [.int 0, .ref (E 0), .int 0])), (q, .inr (1, [.int iv]))] [] sz)) (va_Qi (fun (r : Int32) (_ : Unit) => r = 1) (fun _ t => ∃ ra : Nat, pst dC dI (va_A [(h, .inr (5, [.int 0, .ref (E 0), .int 0])), (q, .inr (1, [.int iv]))] sz) [(h, .inr (5, [.int 1, .ref ra, .int 1]))] [] t) (va_A [(h, .inr (5, [.int 0, .ref (E 0), .int 0])), (q, .inr (1, [.int iv]))] sz)) 1 10 (va_A [(h, .inr (5, [.int 0, .ref (E 0), .int 0])), (q, .inr (1, [.int iv]))] sz) := by
  refine Met.ofW (cc := cJx4a65c_add_9ea2d) (maxL := 2) (ret := (some .boolean)) (by decide) rfl ?_
  intro p e s m args below meth c s₁ B hml hv
  obtain ⟨rfl, hsz, hP, hK, hD0, hE, hZ0⟩ := hv
  have hx := B.exec
  have hb := B.bytes
  have hr := B.returns
  have hts := atoms_spec (ws := wsJx4a65c_add_9ea2d) B.pre
  have hown : s.vm.findClass RJx4a65c = some m.cls := findClass_of_methodNamed B.named
  have hlocks := B.notSynchronized
  subst hsz
  have hD := hD0.self (sz := s.heap.size)
  generalize hAe : va_A [(h, .inr (5, [.int 0, .ref (E 0), .int 0])), (q, .inr (1, [.int iv]))] s.heap.size = A at hD hZ0 ⊢
  have hZ := hZ0
  have hA : ∀ q : Nat, s.heap.size ≤ q → A q := fun q h => by rw [← hAe]; exact Or.inr h
  have hS : va_S A s.heap s.heap [] := va_S.rf
  have hP : va_P (dC, dI) vwCl [(h, .inr (5, [.int 0, .ref (E 0), .int 0])), (q, .inr (1, [.int iv]))] s.heap := hP
  have hl := lv_entry ([.ref h, .ref q]) (n := 2) (Nat.le_of_ble_eq_true rfl)
  rw [lg_entry_eq]
  generalize (lg_sl ([.ref h, .ref q]) ++ List.replicate (2 - (lg_sl ([.ref h, .ref q])).length) Slot.unset).toArray = ls at hl ⊢
  have hl : lv_has ls 2 [(0, .ref h), (1, .ref q)] := hl
  refine lv_aload_n hx hb dJx4a65c_add_9ea2d_0 rfl (lv_at hl 0 rfl) ?_
  refine lv_dup hx hb dJx4a65c_add_9ea2d_1 rfl ?_
  refine va_get (D := (dC, dI)) (ci := 5) (v := .int 0) (C := RJx4a65c) (T := TJx4a65c) (N := 3) hx hb hts (by decide +kernel) hown hK hP 0 rfl rfl 0 (by decide) (hts (.fieldLink RJx4a65c 63 "java/util/ArrayList" "modCount" "I") (by decide +kernel)) (u_same (hts (.sameField "java/util/ArrayList" "java/util/AbstractList" "modCount" "I") (by decide +kernel))) rfl dJx4a65c_add_9ea2d_2 ?_
  refine lv_iconst (v := 1) hx hb dJx4a65c_add_9ea2d_5 (by decide) ?_
  refine lv_iadd hx hb dJx4a65c_add_9ea2d_6 ?_
  refine lv_topi (fun z_1 ez_1 => ?_)
  obtain rfl : z_1 = 1 := ez_1.trans (by decide)
  refine va_put (D := (dC, dI)) (ci := 5) (v := .int 1) (ty := .int) (C := RJx4a65c) (T := TJx4a65c) (N := 3) hx hb hts (by decide +kernel) tyJx4a65c tyJx4a65c_ok nmJx4a65c hown hK hP hD hS 0 rfl rfl 0 (by decide) (hts (.fieldLink RJx4a65c 63 "java/util/ArrayList" "modCount" "I") (by decide +kernel)) (u_same (hts (.sameField "java/util/ArrayList" "java/util/AbstractList" "modCount" "I") (by decide +kernel))) rfl (by decide +kernel) rfl rfl (Nat.le_of_ble_eq_true rfl) dJx4a65c_add_9ea2d_7 (fun H locs hP hD hS => ?_)
  have hP : va_P (dC, dI) vwCl [(h, .inr (5, [.int 1, .ref (E 0), .int 0])), (q, .inr (1, [.int iv]))] H := hP
  have hD : va_D A [(h, .inr (5, [.int 1, .ref (E 0), .int 0])), (q, .inr (1, [.int iv]))] := hD
  refine lv_aload_n hx hb dJx4a65c_add_9ea2d_10 rfl (lv_at hl 0 rfl) ?_
  refine lv_aload_n hx hb dJx4a65c_add_9ea2d_11 rfl (lv_at hl 1 rfl) ?_
  refine lv_aload_n hx hb dJx4a65c_add_9ea2d_12 rfl (lv_at hl 0 rfl) ?_
  refine va_get (D := (dC, dI)) (ci := 5) (v := .ref (E 0)) (C := RJx4a65c) (T := TJx4a65c) (N := 3) hx hb hts (by decide +kernel) hown hK hP 0 rfl rfl 1 (by decide) (hts (.fieldLink RJx4a65c 9 "java/util/ArrayList" "elementData" "[Ljava/lang/Object;") (by decide +kernel)) (fun _ h9 => h9) rfl dJx4a65c_add_9ea2d_13 ?_
  refine lv_aload_n hx hb dJx4a65c_add_9ea2d_16 rfl (lv_at hl 0 rfl) ?_
  refine va_get (D := (dC, dI)) (ci := 5) (v := .int 0) (C := RJx4a65c) (T := TJx4a65c) (N := 3) hx hb hts (by decide +kernel) hown hK hP 0 rfl rfl 2 (by decide) (hts (.fieldLink RJx4a65c 48 "java/util/ArrayList" "size" "I") (by decide +kernel)) (fun _ h9 => h9) rfl dJx4a65c_add_9ea2d_17 ?_
  have hPc := hP.sub (ws' := [(h, .inr (5, [.int 1, .ref (E 0), .int 0])), (q, .inr (1, [.int iv]))]) [0, 1] rfl
  have hDc := hD.sub (ws' := [(h, .inr (5, [.int 1, .ref (E 0), .int 0])), (q, .inr (1, [.int iv]))]) [0, 1] (by decide) rfl
  have hKc := hK.sub (tys' := []) [] rfl
  have hFc := va_free (wc := [(h, .inr (5, [.int 1, .ref (E 0), .int 0])), (q, .inr (1, [.int iv]))]) hD hS hA [0, 1] rfl
  refine va_callv (va_runV (As := [.ref q, .ref (E 0), .int 0]) (rest := []) ⟨hx, hb, hml, hown, hts⟩ (c_al_add3n l dC dI E h 1 q iv H.size) (cwV 3 hts gJx4a65c_add_9ea2d_Jx4a65c_add_72be8 rfl rfl rfl (by decide +kernel) ⟨(Nat.le_of_ble_eq_true rfl), (Nat.le_of_ble_eq_true rfl)⟩) ⟨pre_blind, va_recv hKc hPc (ci := 5) (q0 := 0) rfl rfl, pre_call hPc hDc hKc hFc hE hZ hS⟩ rfl rfl hl.1 rfl (lv_room (Nat.le_of_ble_eq_true rfl)) dJx4a65c_add_9ea2d_20 ⟨(Nat.le_of_ble_eq_true rfl), (Nat.le_of_ble_eq_true rfl)⟩) hS (fun q _ h => hFc q h) hFc (fun u t H1 locs1 ht hvm hw hB hz1 hk1 hS => ?_)
  obtain ⟨ra_2, hB⟩ := hB
  obtain ⟨hP, hD, hK⟩ := pst_join (wc := [(h, .inr (5, [.int 1, .ref (E 0), .int 0])), (q, .inr (1, [.int iv]))]) (wr := []) (w1 := [(h, .inr (5, [.int 1, .ref ra_2, .int 1]))]) (tr := []) (t1 := []) hP hD hK [0, 1] [] [] rfl rfl rfl (by decide) (by decide) hk1 hFc ht hvm hB
  generalize H1 = H at hP hS ⊢
  have hP : va_P (dC, dI) vwCl [(h, .inr (5, [.int 1, .ref ra_2, .int 1]))] H := hP
  have hD : va_D A [(h, .inr (5, [.int 1, .ref ra_2, .int 1]))] := hD
  have hK : va_K (dC, dI) vwCl [] s := hK
  refine W.widen (k := 1) (n := 10) (Nat.le_of_ble_eq_true rfl) (Nat.le_of_ble_eq_true rfl) ?_
  refine lv_iconst (v := 1) hx hb dJx4a65c_add_9ea2d_23 (by decide) ?_
  have hP9 := hP.sub (ws' := [(h, .inr (5, [.int 1, .ref ra_2, .int 1]))]) [0] rfl
  have hD9 := hD.sub (ws' := [(h, .inr (5, [.int 1, .ref ra_2, .int 1]))]) [0] (by decide) rfl
  have hK9 := hK.sub (tys' := []) [] rfl
  refine W.widen (k := 1) (n := 10) (Nat.le_of_ble_eq_true rfl) (Nat.le_of_ble_eq_true rfl) ?_
  exact W.zret (v := 1) hx hb hr rfl (fun t ht hW => ⟨⟨1, (), rfl, rfl, ⟨ra_2, pst_of hP9 hD9 hK9 ht hW⟩⟩, hS.F ht⟩) hS.2.2 dJx4a65c_add_9ea2d_24

set_option maxHeartbeats 4000000 in
set_option maxRecDepth 100000 in
theorem c_al_add3c (l : Launch) (dC : Nat → ClassId) (dI : Nat → Nat → Nat) (E : Nat → Nat) (h : Nat) (md : Int32) (k : Nat) (sz : Nat) (hk : k < 256) : Met l yJx4a65c_add_72be8 wsJx4a65c_add_72be8 ({ frames := 3, cells := 1, slots := 10, locals := 57 }) (va_Pc [.ref h, .ref (E (100 + k)), .ref (E 0), .int 0] (pre dC dI E [(h, .inr (5, [.int md, .ref (E 0), .int 0]))] [] sz)) (va_Qv (fun _ : Unit => True) (fun _ t => ∃ ra : Nat, pst dC dI (va_A [(h, .inr (5, [.int md, .ref (E 0), .int 0]))] sz) [(h, .inr (5, [.int md, .ref ra, .int 1]))] [] t) (va_A [(h, .inr (5, [.int md, .ref (E 0), .int 0]))] sz)) 1 10 (va_A [(h, .inr (5, [.int md, .ref (E 0), .int 0]))] sz) := by
  refine Met.ofW (cc := cJx4a65c_add_72be8) (maxL := 4) (ret := none) (by decide) rfl ?_
  intro p e s m args below meth c s₁ B hml hv
  obtain ⟨rfl, hsz, hP, hK, hD0, hE, hZ0⟩ := hv
  have hx := B.exec
  have hb := B.bytes
  have hr := B.returns
  have hts := atoms_spec (ws := wsJx4a65c_add_72be8) B.pre
  have hown : s.vm.findClass RJx4a65c = some m.cls := findClass_of_methodNamed B.named
  have hlocks := B.notSynchronized
  subst hsz
  have hD := hD0.self (sz := s.heap.size)
  generalize hAe : va_A [(h, .inr (5, [.int md, .ref (E 0), .int 0]))] s.heap.size = A at hD hZ0 ⊢
  have hZ := hZ0
  have hA : ∀ q : Nat, s.heap.size ≤ q → A q := fun q h => by rw [← hAe]; exact Or.inr h
  have hS : va_S A s.heap s.heap [] := va_S.rf
  have hP : va_P (dC, dI) vwCl [(h, .inr (5, [.int md, .ref (E 0), .int 0]))] s.heap := hP
  have hl := lv_entry ([.ref h, .ref (E (100 + k)), .ref (E 0), .int 0]) (n := 4) (Nat.le_of_ble_eq_true rfl)
  rw [lg_entry_eq]
  generalize (lg_sl ([.ref h, .ref (E (100 + k)), .ref (E 0), .int 0]) ++ List.replicate (4 - (lg_sl ([.ref h, .ref (E (100 + k)), .ref (E 0), .int 0])).length) Slot.unset).toArray = ls at hl ⊢
  have hl : lv_has ls 4 [(0, .ref h), (1, .ref (E (100 + k))), (2, .ref (E 0)), (3, .int 0)] := hl
  refine lv_iload_n hx hb dJx4a65c_add_72be8_0 rfl (lv_at hl 3 rfl) ?_
  refine lv_aload_n hx hb dJx4a65c_add_72be8_1 rfl (lv_at hl 2 rfl) ?_
  refine va_tlen (v := 0) hx hb hZ.1.2.1 hS (by decide) dJx4a65c_add_72be8_2 ?_
  refine lv_icmp_ne (tgt := 11) hx hb dJx4a65c_add_72be8_3 (by decide) (fun c9 => absurd (by decide) c9) (fun _ => ?_)
  refine lv_aload_n hx hb dJx4a65c_add_72be8_6 rfl (lv_at hl 0 rfl) ?_
  have hPc := hP.sub (ws' := [(h, .inr (5, [.int md, .ref (E 0), .int 0]))]) [0] rfl
  have hDc := hD.sub (ws' := [(h, .inr (5, [.int md, .ref (E 0), .int 0]))]) [0] (by decide) rfl
  have hKc := hK.sub (tys' := []) [] rfl
  have hFc := va_free (wc := [(h, .inr (5, [.int md, .ref (E 0), .int 0]))]) hD hS hA [0] rfl
  refine va_callr (va_runV (As := []) (rest := []) ⟨hx, hb, hml, hown, hts⟩ (c_al_grow0 l dC dI E h md s.heap.size) (cwV 0 hts gJx4a65c_add_72be8_Jx4a65c_grow_d5877 rfl rfl rfl (by decide +kernel) ⟨(Nat.le_of_ble_eq_true rfl), (Nat.le_of_ble_eq_true rfl)⟩) ⟨pre_blind, va_recv hKc hPc (ci := 5) (q0 := 0) rfl rfl, pre_call hPc hDc hKc hFc hE hZ hS⟩ rfl rfl hl.1 rfl (lv_room (Nat.le_of_ble_eq_true rfl)) dJx4a65c_add_72be8_7 ⟨(Nat.le_of_ble_eq_true rfl), (Nat.le_of_ble_eq_true rfl)⟩) hS (fun q _ h => hFc q h) hFc (fun u q_3 t H1 locs1 ht hvm hw hB hz1 hk1 hS => ?_)
  try dsimp only at hB
  obtain ⟨cA_2, hB⟩ := hB
  obtain ⟨hP, hD, hK⟩ := pst_join (wc := [(h, .inr (5, [.int md, .ref (E 0), .int 0]))]) (wr := []) (w1 := [(h, .inr (5, [.int md, .ref q_3, .int 0])), (q_3, .inl (cA_2, 10, .inr (.inr (.inr (.inr (fun _ => none))))))]) (tr := []) (t1 := [(cA_2, .object "java/lang/Object")]) hP hD hK [0] [] [] rfl rfl rfl (by decide) (by decide) hk1 hFc ht hvm hB
  generalize H1 = H at hP hS ⊢
  have hP : va_P (dC, dI) vwCl [(h, .inr (5, [.int md, .ref q_3, .int 0])), (q_3, .inl (cA_2, 10, .inr (.inr (.inr (.inr (fun _ => none))))))] H := hP
  have hD : va_D A [(h, .inr (5, [.int md, .ref q_3, .int 0])), (q_3, .inl (cA_2, 10, .inr (.inr (.inr (.inr (fun _ => none))))))] := hD
  have hK : va_K (dC, dI) vwCl [(cA_2, .object "java/lang/Object")] s := hK
  refine W.widen (k := 1) (n := 10) (Nat.le_of_ble_eq_true rfl) (Nat.le_of_ble_eq_true rfl) ?_
  refine lv_astore_n (lv' := [(2, .ref q_3), (0, .ref h), (1, .ref (E (100 + k))), (3, .int 0)]) hx hb dJx4a65c_add_72be8_10 rfl hl (by decide) rfl (fun ls hl => ?_)
  refine lv_aload_n hx hb dJx4a65c_add_72be8_11 rfl (lv_at hl 0 rfl) ?_
  refine lv_iload_n hx hb dJx4a65c_add_72be8_12 rfl (lv_at hl 3 rfl) ?_
  refine lv_aload_n hx hb dJx4a65c_add_72be8_13 rfl (lv_at hl 2 rfl) ?_
  refine va_astqM hx hb hK hP hD hS 1 0 rfl rfl (any_int hE hZ hS hk) (by unfold vp_in; decide) dJx4a65c_add_72be8_14 (fun H locs hP hD hS => ?_)
  have hP : va_P (dC, dI) vwCl [(h, .inr (5, [.int md, .ref q_3, .int 0])), (q_3, .inl (cA_2, 10, .inr (.inr (.inr (.inr (va_up (fun _ => none) (0 : Int32).toNatClampNeg (some (E (100 + k)))))))))] H := hP
  have hD : va_D A [(h, .inr (5, [.int md, .ref q_3, .int 0])), (q_3, .inl (cA_2, 10, .inr (.inr (.inr (.inr (va_up (fun _ => none) (0 : Int32).toNatClampNeg (some (E (100 + k)))))))))] := hD
  obtain ⟨f_5, ef_5⟩ : ∃ y : Nat → Option Nat, y = va_up (fun _ => none) (0 : Int32).toNatClampNeg (some (E (100 + k))) := ⟨_, rfl⟩
  rw [← ef_5] at hP hD
  have hP : va_P (dC, dI) vwCl [(h, .inr (5, [.int md, .ref q_3, .int 0])), (q_3, .inl (cA_2, 10, .inr (.inr (.inr (.inr f_5)))))] H := hP
  have hD : va_D A [(h, .inr (5, [.int md, .ref q_3, .int 0])), (q_3, .inl (cA_2, 10, .inr (.inr (.inr (.inr f_5)))))] := hD
  refine lv_aload_n hx hb dJx4a65c_add_72be8_15 rfl (lv_at hl 1 rfl) ?_
  refine lv_iload_n hx hb dJx4a65c_add_72be8_16 rfl (lv_at hl 3 rfl) ?_
  refine lv_iconst (v := 1) hx hb dJx4a65c_add_72be8_17 (by decide) ?_
  refine lv_iadd hx hb dJx4a65c_add_72be8_18 ?_
  refine lv_topi (fun z_6 ez_6 => ?_)
  obtain rfl : z_6 = 1 := ez_6.trans (by decide)
  refine va_put (D := (dC, dI)) (ci := 5) (v := .int 1) (ty := .int) (C := RJx4a65c) (T := TJx4a65c) (N := 3) hx hb hts (by decide +kernel) tyJx4a65c tyJx4a65c_ok nmJx4a65c hown hK hP hD hS 0 rfl rfl 2 (by decide) (hts (.fieldLink RJx4a65c 48 "java/util/ArrayList" "size" "I") (by decide +kernel)) (fun _ h9 => h9) rfl (by decide +kernel) rfl rfl (Nat.le_of_ble_eq_true rfl) dJx4a65c_add_72be8_19 (fun H locs hP hD hS => ?_)
  have hP : va_P (dC, dI) vwCl [(h, .inr (5, [.int md, .ref q_3, .int 1])), (q_3, .inl (cA_2, 10, .inr (.inr (.inr (.inr f_5)))))] H := hP
  have hD : va_D A [(h, .inr (5, [.int md, .ref q_3, .int 1])), (q_3, .inl (cA_2, 10, .inr (.inr (.inr (.inr f_5)))))] := hD
  have hP9 := hP.sub (ws' := [(h, .inr (5, [.int md, .ref q_3, .int 1]))]) [0] rfl
  have hD9 := hD.sub (ws' := [(h, .inr (5, [.int md, .ref q_3, .int 1]))]) [0] (by decide) rfl
  have hK9 := hK.sub (tys' := []) [] rfl
  refine W.widen (k := 1) (n := 10) (Nat.le_of_ble_eq_true rfl) (Nat.le_of_ble_eq_true rfl) ?_
  exact W.vret hx hb hr (fun t ht hW => ⟨⟨(), rfl, trivial, ⟨q_3, pst_of hP9 hD9 hK9 ht hW⟩⟩, hS.F ht⟩) hS.2.2 dJx4a65c_add_72be8_22

set_option maxHeartbeats 4000000 in
set_option maxRecDepth 100000 in
theorem c_al_add1c (l : Launch) (dC : Nat → ClassId) (dI : Nat → Nat → Nat) (E : Nat → Nat) (h : Nat) (k : Nat) (sz : Nat) (hk : k < 256) : Met l yJx4a65c_add_9ea2d wsJx4a65c_add_9ea2d ({ frames := 4, cells := 1, slots := 10, locals := 80 }) (va_Pc [.ref h, .ref (E (100 + k))] (pre dC dI E [(h, .inr (5, [.int 0, .ref (E 0), .int 0]))] [] sz)) (va_Qi (fun (r : Int32) (_ : Unit) => r = 1) (fun _ t => ∃ ra : Nat, pst dC dI (va_A [(h, .inr (5, [.int 0, .ref (E 0), .int 0]))] sz) [(h, .inr (5, [.int 1, .ref ra, .int 1]))] [] t) (va_A [(h, .inr (5, [.int 0, .ref (E 0), .int 0]))] sz)) 1 10 (va_A [(h, .inr (5, [.int 0, .ref (E 0), .int 0]))] sz) := by
  refine Met.ofW (cc := cJx4a65c_add_9ea2d) (maxL := 2) (ret := (some .boolean)) (by decide) rfl ?_
  intro p e s m args below meth c s₁ B hml hv
  obtain ⟨rfl, hsz, hP, hK, hD0, hE, hZ0⟩ := hv
  have hx := B.exec
  have hb := B.bytes
  have hr := B.returns
  have hts := atoms_spec (ws := wsJx4a65c_add_9ea2d) B.pre
  have hown : s.vm.findClass RJx4a65c = some m.cls := findClass_of_methodNamed B.named
  have hlocks := B.notSynchronized
  subst hsz
  have hD := hD0.self (sz := s.heap.size)
  generalize hAe : va_A [(h, .inr (5, [.int 0, .ref (E 0), .int 0]))] s.heap.size = A at hD hZ0 ⊢
  have hZ := hZ0
  have hA : ∀ q : Nat, s.heap.size ≤ q → A q := fun q h => by rw [← hAe]; exact Or.inr h
  have hS : va_S A s.heap s.heap [] := va_S.rf
  have hP : va_P (dC, dI) vwCl [(h, .inr (5, [.int 0, .ref (E 0), .int 0]))] s.heap := hP
  have hl := lv_entry ([.ref h, .ref (E (100 + k))]) (n := 2) (Nat.le_of_ble_eq_true rfl)
  rw [lg_entry_eq]
  generalize (lg_sl ([.ref h, .ref (E (100 + k))]) ++ List.replicate (2 - (lg_sl ([.ref h, .ref (E (100 + k))])).length) Slot.unset).toArray = ls at hl ⊢
  have hl : lv_has ls 2 [(0, .ref h), (1, .ref (E (100 + k)))] := hl
  refine lv_aload_n hx hb dJx4a65c_add_9ea2d_0 rfl (lv_at hl 0 rfl) ?_
  refine lv_dup hx hb dJx4a65c_add_9ea2d_1 rfl ?_
  refine va_get (D := (dC, dI)) (ci := 5) (v := .int 0) (C := RJx4a65c) (T := TJx4a65c) (N := 3) hx hb hts (by decide +kernel) hown hK hP 0 rfl rfl 0 (by decide) (hts (.fieldLink RJx4a65c 63 "java/util/ArrayList" "modCount" "I") (by decide +kernel)) (u_same (hts (.sameField "java/util/ArrayList" "java/util/AbstractList" "modCount" "I") (by decide +kernel))) rfl dJx4a65c_add_9ea2d_2 ?_
  refine lv_iconst (v := 1) hx hb dJx4a65c_add_9ea2d_5 (by decide) ?_
  refine lv_iadd hx hb dJx4a65c_add_9ea2d_6 ?_
  refine lv_topi (fun z_1 ez_1 => ?_)
  obtain rfl : z_1 = 1 := ez_1.trans (by decide)
  refine va_put (D := (dC, dI)) (ci := 5) (v := .int 1) (ty := .int) (C := RJx4a65c) (T := TJx4a65c) (N := 3) hx hb hts (by decide +kernel) tyJx4a65c tyJx4a65c_ok nmJx4a65c hown hK hP hD hS 0 rfl rfl 0 (by decide) (hts (.fieldLink RJx4a65c 63 "java/util/ArrayList" "modCount" "I") (by decide +kernel)) (u_same (hts (.sameField "java/util/ArrayList" "java/util/AbstractList" "modCount" "I") (by decide +kernel))) rfl (by decide +kernel) rfl rfl (Nat.le_of_ble_eq_true rfl) dJx4a65c_add_9ea2d_7 (fun H locs hP hD hS => ?_)
  have hP : va_P (dC, dI) vwCl [(h, .inr (5, [.int 1, .ref (E 0), .int 0]))] H := hP
  have hD : va_D A [(h, .inr (5, [.int 1, .ref (E 0), .int 0]))] := hD
  refine lv_aload_n hx hb dJx4a65c_add_9ea2d_10 rfl (lv_at hl 0 rfl) ?_
  refine lv_aload_n hx hb dJx4a65c_add_9ea2d_11 rfl (lv_at hl 1 rfl) ?_
  refine lv_aload_n hx hb dJx4a65c_add_9ea2d_12 rfl (lv_at hl 0 rfl) ?_
  refine va_get (D := (dC, dI)) (ci := 5) (v := .ref (E 0)) (C := RJx4a65c) (T := TJx4a65c) (N := 3) hx hb hts (by decide +kernel) hown hK hP 0 rfl rfl 1 (by decide) (hts (.fieldLink RJx4a65c 9 "java/util/ArrayList" "elementData" "[Ljava/lang/Object;") (by decide +kernel)) (fun _ h9 => h9) rfl dJx4a65c_add_9ea2d_13 ?_
  refine lv_aload_n hx hb dJx4a65c_add_9ea2d_16 rfl (lv_at hl 0 rfl) ?_
  refine va_get (D := (dC, dI)) (ci := 5) (v := .int 0) (C := RJx4a65c) (T := TJx4a65c) (N := 3) hx hb hts (by decide +kernel) hown hK hP 0 rfl rfl 2 (by decide) (hts (.fieldLink RJx4a65c 48 "java/util/ArrayList" "size" "I") (by decide +kernel)) (fun _ h9 => h9) rfl dJx4a65c_add_9ea2d_17 ?_
  have hPc := hP.sub (ws' := [(h, .inr (5, [.int 1, .ref (E 0), .int 0]))]) [0] rfl
  have hDc := hD.sub (ws' := [(h, .inr (5, [.int 1, .ref (E 0), .int 0]))]) [0] (by decide) rfl
  have hKc := hK.sub (tys' := []) [] rfl
  have hFc := va_free (wc := [(h, .inr (5, [.int 1, .ref (E 0), .int 0]))]) hD hS hA [0] rfl
  refine va_callv (va_runV (As := [.ref (E (100 + k)), .ref (E 0), .int 0]) (rest := []) ⟨hx, hb, hml, hown, hts⟩ (c_al_add3c l dC dI E h 1 k H.size hk) (cwV 3 hts gJx4a65c_add_9ea2d_Jx4a65c_add_72be8 rfl rfl rfl (by decide +kernel) ⟨(Nat.le_of_ble_eq_true rfl), (Nat.le_of_ble_eq_true rfl)⟩) ⟨pre_blind, va_recv hKc hPc (ci := 5) (q0 := 0) rfl rfl, pre_call hPc hDc hKc hFc hE hZ hS⟩ rfl rfl hl.1 rfl (lv_room (Nat.le_of_ble_eq_true rfl)) dJx4a65c_add_9ea2d_20 ⟨(Nat.le_of_ble_eq_true rfl), (Nat.le_of_ble_eq_true rfl)⟩) hS (fun q _ h => hFc q h) hFc (fun u t H1 locs1 ht hvm hw hB hz1 hk1 hS => ?_)
  obtain ⟨ra_2, hB⟩ := hB
  obtain ⟨hP, hD, hK⟩ := pst_join (wc := [(h, .inr (5, [.int 1, .ref (E 0), .int 0]))]) (wr := []) (w1 := [(h, .inr (5, [.int 1, .ref ra_2, .int 1]))]) (tr := []) (t1 := []) hP hD hK [0] [] [] rfl rfl rfl (by decide) (by decide) hk1 hFc ht hvm hB
  generalize H1 = H at hP hS ⊢
  have hP : va_P (dC, dI) vwCl [(h, .inr (5, [.int 1, .ref ra_2, .int 1]))] H := hP
  have hD : va_D A [(h, .inr (5, [.int 1, .ref ra_2, .int 1]))] := hD
  have hK : va_K (dC, dI) vwCl [] s := hK
  refine W.widen (k := 1) (n := 10) (Nat.le_of_ble_eq_true rfl) (Nat.le_of_ble_eq_true rfl) ?_
  refine lv_iconst (v := 1) hx hb dJx4a65c_add_9ea2d_23 (by decide) ?_
  have hP9 := hP.sub (ws' := [(h, .inr (5, [.int 1, .ref ra_2, .int 1]))]) [0] rfl
  have hD9 := hD.sub (ws' := [(h, .inr (5, [.int 1, .ref ra_2, .int 1]))]) [0] (by decide) rfl
  have hK9 := hK.sub (tys' := []) [] rfl
  refine W.widen (k := 1) (n := 10) (Nat.le_of_ble_eq_true rfl) (Nat.le_of_ble_eq_true rfl) ?_
  exact W.zret (v := 1) hx hb hr rfl (fun t ht hW => ⟨⟨1, (), rfl, rfl, ⟨ra_2, pst_of hP9 hD9 hK9 ht hW⟩⟩, hS.F ht⟩) hS.2.2 dJx4a65c_add_9ea2d_24

set_option maxHeartbeats 4000000 in
set_option maxRecDepth 100000 in
theorem c_num_init (l : Launch) (dC : Nat → ClassId) (dI : Nat → Nat → Nat) (E : Nat → Nat) (h : Nat) (sz : Nat) : Met l yJxd2413_init_da8c8 wsJxd2413_init_da8c8 ({ frames := 1, cells := 0, slots := 0, locals := 12 }) (va_Pc [.ref h] (pre dC dI E [] [] sz)) (va_Qv (fun _ : Unit => True) (fun _ t => pst dC dI (va_A [] sz) [] [] t) (va_A [] sz)) 0 0 (va_A [] sz) := by
  refine Met.ofW (cc := cJxd2413_init_da8c8) (maxL := 1) (ret := none) (by decide) rfl ?_
  intro p e s m args below meth c s₁ B hml hv
  obtain ⟨rfl, hsz, hP, hK, hD0, hE, hZ0⟩ := hv
  have hx := B.exec
  have hb := B.bytes
  have hr := B.returns
  have hts := atoms_spec (ws := wsJxd2413_init_da8c8) B.pre
  have hown : s.vm.findClass RJxd2413 = some m.cls := findClass_of_methodNamed B.named
  have hlocks := B.notSynchronized
  have hin : meth.name = "<init>" := (name_of_methodNamed B.named B.method).1
  subst hsz
  have hD := hD0.self (sz := s.heap.size)
  generalize hAe : va_A [] s.heap.size = A at hD hZ0 ⊢
  have hZ := hZ0
  have hA : ∀ q : Nat, s.heap.size ≤ q → A q := fun q h => by rw [← hAe]; exact Or.inr h
  have hS : va_S A s.heap s.heap [] := va_S.rf
  have hP : va_P (dC, dI) vwCl [] s.heap := hP
  have hl := lv_entry ([.ref h]) (n := 1) (Nat.le_of_ble_eq_true rfl)
  rw [lg_entry_eq]
  generalize (lg_sl ([.ref h]) ++ List.replicate (1 - (lg_sl ([.ref h])).length) Slot.unset).toArray = ls at hl ⊢
  have hl : lv_has ls 1 [(0, .ref h)] := hl
  refine lv_aload_n hx hb dJxd2413_init_da8c8_0 rfl (lv_at hl 0 rfl) ?_
  refine W.objInit hx hb hown (hts (.methodLink RJxd2413 1 objectInit) (by decide +kernel)) (hts (.instanceMethod objectInit) (by decide +kernel)) (hts (.code objectInit ⟨#[0xb1]⟩ 1 none) (by decide +kernel)) rfl (by rw [hml]; exact hl.1) rfl dJxd2413_init_da8c8_1 (Nat.le_of_ble_eq_true rfl) (Nat.le_of_ble_eq_true rfl) ?_
  refine W.eq (g2 := F0 m 4 ls []) rfl ?_
  have hP9 := hP.sub (ws' := []) [] rfl
  have hD9 := hD.sub (ws' := []) [] (by decide) rfl
  have hK9 := hK.sub (tys' := []) [] rfl
  refine W.widen (k := 0) (n := 0) (Nat.le_of_ble_eq_true rfl) (Nat.le_of_ble_eq_true rfl) ?_
  exact W.vret hx hb hr (fun t ht hW => ⟨⟨(), rfl, trivial, pst_of hP9 hD9 hK9 ht hW⟩, hS.F ht⟩) hS.2.2 dJxd2413_init_da8c8_4

set_option maxHeartbeats 4000000 in
set_option maxRecDepth 100000 in
theorem c_int_init (l : Launch) (dC : Nat → ClassId) (dI : Nat → Nat → Nat) (E : Nat → Nat) (h : Nat) (iv : Int32) (sz : Nat) : Met l yJ6_init_d00df wsJ6_init_d00df ({ frames := 2, cells := 0, slots := 0, locals := 32 }) (va_Pc [.ref h, .int iv] (pre dC dI E [(h, .inr (1, [.int 0]))] [] sz)) (va_Qv (fun _ : Unit => True) (fun _ t => pst dC dI (va_A [(h, .inr (1, [.int 0]))] sz) [(h, .inr (1, [.int iv]))] [] t) (va_A [(h, .inr (1, [.int 0]))] sz)) 0 0 (va_A [(h, .inr (1, [.int 0]))] sz) := by
  refine Met.ofW (cc := cJ6_init_d00df) (maxL := 2) (ret := none) (by decide) rfl ?_
  intro p e s m args below meth c s₁ B hml hv
  obtain ⟨rfl, hsz, hP, hK, hD0, hE, hZ0⟩ := hv
  have hx := B.exec
  have hb := B.bytes
  have hr := B.returns
  have hts := atoms_spec (ws := wsJ6_init_d00df) B.pre
  have hown : s.vm.findClass RJ6 = some m.cls := findClass_of_methodNamed B.named
  have hlocks := B.notSynchronized
  have hin : meth.name = "<init>" := (name_of_methodNamed B.named B.method).1
  subst hsz
  have hD := hD0.self (sz := s.heap.size)
  generalize hAe : va_A [(h, .inr (1, [.int 0]))] s.heap.size = A at hD hZ0 ⊢
  have hZ := hZ0
  have hA : ∀ q : Nat, s.heap.size ≤ q → A q := fun q h => by rw [← hAe]; exact Or.inr h
  have hS : va_S A s.heap s.heap [] := va_S.rf
  have hP : va_P (dC, dI) vwCl [(h, .inr (1, [.int 0]))] s.heap := hP
  have hl := lv_entry ([.ref h, .int iv]) (n := 2) (Nat.le_of_ble_eq_true rfl)
  rw [lg_entry_eq]
  generalize (lg_sl ([.ref h, .int iv]) ++ List.replicate (2 - (lg_sl ([.ref h, .int iv])).length) Slot.unset).toArray = ls at hl ⊢
  have hl : lv_has ls 2 [(0, .ref h), (1, .int iv)] := hl
  refine lv_aload_n hx hb dJ6_init_d00df_0 rfl (lv_at hl 0 rfl) ?_
  have hPc := hP.sub (ws' := []) [] rfl
  have hDc := hD.sub (ws' := []) [] (by decide) rfl
  have hKc := hK.sub (tys' := []) [] rfl
  have hFc := va_free (wc := []) hD hS hA [] rfl
  refine va_callv (va_runI (As := []) (rest := []) ⟨hx, hb, hml, hown, hts⟩ (c_num_init l dC dI E h s.heap.size) (cwI 0 hts gJ6_init_d00df_Jxd2413_init_da8c8 rfl rfl rfl (hts (.initialized RJxd2413) (by decide +kernel)) (hts (.methodLink RJ6 202 yJxd2413_init_da8c8) (by decide +kernel)) (hts (.instanceMethod yJxd2413_init_da8c8) (by decide +kernel)) rfl (by decide +kernel) ⟨(Nat.le_of_ble_eq_true rfl), (Nat.le_of_ble_eq_true rfl)⟩) ⟨pre_blind, pre_call hPc hDc hKc hFc hE hZ hS⟩ rfl rfl hl.1 rfl (lv_room (Nat.le_of_ble_eq_true rfl)) dJ6_init_d00df_1 ⟨(Nat.le_of_ble_eq_true rfl), (Nat.le_of_ble_eq_true rfl)⟩) hS (fun q _ h => hFc q h) hFc (fun u t H1 locs1 ht hvm hw hB hz1 hk1 hS => ?_)
  obtain ⟨hP, hD, hK⟩ := pst_join (wc := []) (wr := [(h, .inr (1, [.int 0]))]) (w1 := []) (tr := []) (t1 := []) hP hD hK [] [0] [] rfl rfl rfl (by decide) (by decide) hk1 hFc ht hvm hB
  generalize H1 = H at hP hS ⊢
  have hP : va_P (dC, dI) vwCl [(h, .inr (1, [.int 0]))] H := hP
  have hD : va_D A [(h, .inr (1, [.int 0]))] := hD
  have hK : va_K (dC, dI) vwCl [] s := hK
  refine W.widen (k := 0) (n := 0) (Nat.le_of_ble_eq_true rfl) (Nat.le_of_ble_eq_true rfl) ?_
  refine lv_aload_n hx hb dJ6_init_d00df_4 rfl (lv_at hl 0 rfl) ?_
  refine lv_iload_n hx hb dJ6_init_d00df_5 rfl (lv_at hl 1 rfl) ?_
  refine va_putF (D := (dC, dI)) (ci := 1) (v := .int iv) (ty := .int) (C := RJ6) (T := TJ6) (N := 1) hx hb hts (by decide +kernel) tyJ6 tyJ6_ok nmJ6 hown hK hP hD hS 0 rfl rfl 0 (by decide) (hts (.fieldLink RJ6 205 "java/lang/Integer" "value" "I") (by decide +kernel)) (fun _ h9 => h9) rfl hin rfl (by decide +kernel) rfl rfl (Nat.le_of_ble_eq_true rfl) dJ6_init_d00df_6 (fun H locs hP hD hS => ?_)
  have hP : va_P (dC, dI) vwCl [(h, .inr (1, [.int iv]))] H := hP
  have hD : va_D A [(h, .inr (1, [.int iv]))] := hD
  have hP9 := hP.sub (ws' := [(h, .inr (1, [.int iv]))]) [0] rfl
  have hD9 := hD.sub (ws' := [(h, .inr (1, [.int iv]))]) [0] (by decide) rfl
  have hK9 := hK.sub (tys' := []) [] rfl
  refine W.widen (k := 0) (n := 0) (Nat.le_of_ble_eq_true rfl) (Nat.le_of_ble_eq_true rfl) ?_
  exact W.vret hx hb hr (fun t ht hW => ⟨⟨(), rfl, trivial, pst_of hP9 hD9 hK9 ht hW⟩, hS.F ht⟩) hS.2.2 dJ6_init_d00df_9

set_option maxHeartbeats 4000000 in
set_option maxRecDepth 100000 in
theorem c_valueOf_c (l : Launch) (dC : Nat → ClassId) (dI : Nat → Nat → Nat) (E : Nat → Nat) (iv : Int32) (sz : Nat) (h1 : ¬ iv < (-128)) (h2 : ¬ 127 < iv) : Met l yJ6_valueOf_2dffe wsJ6_valueOf_2dffe ({ frames := 0, cells := 0, slots := 0, locals := 0 }) (va_Pc [.int iv] (pre dC dI E [] [] sz)) (va_Qr (fun _ : Unit => True) (fun (_ : Unit) (ra : Nat) t => ∃ k : Nat, ra = (E (100 + k)) ∧ k < 256 ∧ pst dC dI (va_A [] sz) [] [] t) (va_A [] sz)) 0 0 (va_A [] sz) := by
  refine Met.ofW (cc := cJ6_valueOf_2dffe) (maxL := 1) (ret := (some (.object "java/lang/Integer"))) (by decide) rfl ?_
  intro p e s m args below meth c s₁ B hml hv
  obtain ⟨rfl, hsz, hP, hK, hD0, hE, hZ0⟩ := hv
  have hx := B.exec
  have hb := B.bytes
  have hr := B.returns
  have hts := atoms_spec (ws := wsJ6_valueOf_2dffe) B.pre
  have hown : s.vm.findClass RJ6 = some m.cls := findClass_of_methodNamed B.named
  have hlocks := B.notSynchronized
  subst hsz
  have hD := hD0.self (sz := s.heap.size)
  generalize hAe : va_A [] s.heap.size = A at hD hZ0 ⊢
  have hZ := hZ0
  have hA : ∀ q : Nat, s.heap.size ≤ q → A q := fun q h => by rw [← hAe]; exact Or.inr h
  have hS : va_S A s.heap s.heap [] := va_S.rf
  have hP : va_P (dC, dI) vwCl [] s.heap := hP
  have hl := lv_entry ([.int iv]) (n := 1) (Nat.le_of_ble_eq_true rfl)
  rw [lg_entry_eq]
  generalize (lg_sl ([.int iv]) ++ List.replicate (1 - (lg_sl ([.int iv])).length) Slot.unset).toArray = ls at hl ⊢
  have hl : lv_has ls 1 [(0, .int iv)] := hl
  refine lv_iload_n hx hb dJ6_valueOf_2dffe_0 rfl (lv_at hl 0 rfl) ?_
  refine lv_bipush (v := (-128)) hx hb dJ6_valueOf_2dffe_1 (by decide) ?_
  refine lv_icmp_lt (tgt := 23) hx hb dJ6_valueOf_2dffe_3 (by decide) (fun c9 => (h1 c9).elim) (fun c_1 => ?_)
  refine lv_iload_n hx hb dJ6_valueOf_2dffe_6 rfl (lv_at hl 0 rfl) ?_
  refine va_gets hx hb hZ.2.2.1 hS hown (hts (.fieldLink RJ6 191 "java/lang/Integer$IntegerCache" "high" "I") (by decide +kernel)) (fun _ h9 => h9) dJ6_valueOf_2dffe_7 ?_
  refine lv_icmp_gt (tgt := 23) hx hb dJ6_valueOf_2dffe_10 (by decide) (fun c9 => (h2 c9).elim) (fun c_2 => ?_)
  refine va_gets hx hb hZ.2.2.2.1 hS hown (hts (.fieldLink RJ6 195 "java/lang/Integer$IntegerCache" "cache" "[Ljava/lang/Integer;") (by decide +kernel)) (fun _ h9 => h9) dJ6_valueOf_2dffe_13 ?_
  refine lv_iload_n hx hb dJ6_valueOf_2dffe_16 rfl (lv_at hl 0 rfl) ?_
  refine lv_sipush (v := 128) hx hb dJ6_valueOf_2dffe_17 (by decide) ?_
  refine lv_iadd hx hb dJ6_valueOf_2dffe_20 ?_
  obtain ⟨k, hk, ek, -⟩ := bx_small h1 h2
  refine vb_tq (v := .ref (E (100 + k))) hx hb hZ.2.2.2.2.1 hS (by rw [ek]; exact vp_in_nI hk (by decide)) (by show Value.ref (E (100 + (iv + 128 : Int32).toNatClampNeg)) = _; rw [ek, nI_clamp (by omega)]) dJ6_valueOf_2dffe_21 ?_
  have hP9 := hP.sub (ws' := []) [] rfl
  have hD9 := hD.sub (ws' := []) [] (by decide) rfl
  have hK9 := hK.sub (tys' := []) [] rfl
  refine W.widen (k := 0) (n := 0) (Nat.le_of_ble_eq_true rfl) (Nat.le_of_ble_eq_true rfl) ?_
  exact W.aret (v := .ref (E (100 + k))) hx hb hr (Or.inl ⟨_, rfl⟩) (Or.inr ⟨_, rfl⟩) (fun t ht hW => ⟨⟨(), (E (100 + k)), rfl, trivial, ⟨k, rfl, hk, pst_of hP9 hD9 hK9 ht hW⟩⟩, hS.F ht⟩) hS.2.2 dJ6_valueOf_2dffe_22

set_option maxHeartbeats 4000000 in
set_option maxRecDepth 100000 in
theorem c_valueOf_n (l : Launch) (dC : Nat → ClassId) (dI : Nat → Nat → Nat) (E : Nat → Nat) (iv : Int32) (sz : Nat) (h1 : ¬ iv < (-128)) (h2 : 127 < iv) : Met l yJ6_valueOf_2dffe wsJ6_valueOf_2dffe ({ frames := 3, cells := 1, slots := 1, locals := 53 }) (va_Pc [.int iv] (pre dC dI E [] [] sz)) (va_Qr (fun _ : Unit => True) (fun (_ : Unit) (q : Nat) t => pst dC dI (va_A [] sz) [(q, .inr (1, [.int iv]))] [] t) (va_A [] sz)) 1 1 (va_A [] sz) := by
  refine Met.ofW (cc := cJ6_valueOf_2dffe) (maxL := 1) (ret := (some (.object "java/lang/Integer"))) (by decide) rfl ?_
  intro p e s m args below meth c s₁ B hml hv
  obtain ⟨rfl, hsz, hP, hK, hD0, hE, hZ0⟩ := hv
  have hx := B.exec
  have hb := B.bytes
  have hr := B.returns
  have hts := atoms_spec (ws := wsJ6_valueOf_2dffe) B.pre
  have hown : s.vm.findClass RJ6 = some m.cls := findClass_of_methodNamed B.named
  have hlocks := B.notSynchronized
  subst hsz
  have hD := hD0.self (sz := s.heap.size)
  generalize hAe : va_A [] s.heap.size = A at hD hZ0 ⊢
  have hZ := hZ0
  have hA : ∀ q : Nat, s.heap.size ≤ q → A q := fun q h => by rw [← hAe]; exact Or.inr h
  have hS : va_S A s.heap s.heap [] := va_S.rf
  have hP : va_P (dC, dI) vwCl [] s.heap := hP
  have hl := lv_entry ([.int iv]) (n := 1) (Nat.le_of_ble_eq_true rfl)
  rw [lg_entry_eq]
  generalize (lg_sl ([.int iv]) ++ List.replicate (1 - (lg_sl ([.int iv])).length) Slot.unset).toArray = ls at hl ⊢
  have hl : lv_has ls 1 [(0, .int iv)] := hl
  refine lv_iload_n hx hb dJ6_valueOf_2dffe_0 rfl (lv_at hl 0 rfl) ?_
  refine lv_bipush (v := (-128)) hx hb dJ6_valueOf_2dffe_1 (by decide) ?_
  refine lv_icmp_lt (tgt := 23) hx hb dJ6_valueOf_2dffe_3 (by decide) (fun c9 => (h1 c9).elim) (fun c_1 => ?_)
  refine lv_iload_n hx hb dJ6_valueOf_2dffe_6 rfl (lv_at hl 0 rfl) ?_
  refine va_gets hx hb hZ.2.2.1 hS hown (hts (.fieldLink RJ6 191 "java/lang/Integer$IntegerCache" "high" "I") (by decide +kernel)) (fun _ h9 => h9) dJ6_valueOf_2dffe_7 ?_
  refine lv_icmp_gt (tgt := 23) hx hb dJ6_valueOf_2dffe_10 (by decide) (fun c_2 => ?_) (fun c9 => (c9 h2).elim)
  refine va_new (ci := 1) (fs := [.int 0]) (C := RJ6) (T := TJ6) (N := 1) hx hb hts (by decide +kernel) tyJ6 tyJ6_ok hown (hts (.classLink RJ6 1 RJ6) (by decide +kernel)) (hts (.instantiable RJ6 1) (by decide +kernel)) (hts (.initialized RJ6) (by decide +kernel)) hK hP hD hS hA rfl (fun j hj => by rcases (show j = 0 by omega) with rfl <;> rfl) (Nat.le_of_ble_eq_true rfl) (Nat.le_of_ble_eq_true rfl) dJ6_valueOf_2dffe_23 (fun q_3 H hP hD hS => ?_)
  have hP : va_P (dC, dI) vwCl [(q_3, .inr (1, [.int 0]))] H := hP
  have hD : va_D A [(q_3, .inr (1, [.int 0]))] := hD
  refine W.widen (k := 1) (n := 1) (Nat.le_of_ble_eq_true rfl) (Nat.le_of_ble_eq_true rfl) ?_
  refine lv_dup hx hb dJ6_valueOf_2dffe_26 rfl ?_
  refine lv_iload_n hx hb dJ6_valueOf_2dffe_27 rfl (lv_at hl 0 rfl) ?_
  have hPc := hP.sub (ws' := [(q_3, .inr (1, [.int 0]))]) [0] rfl
  have hDc := hD.sub (ws' := [(q_3, .inr (1, [.int 0]))]) [0] (by decide) rfl
  have hKc := hK.sub (tys' := []) [] rfl
  have hFc := va_free (wc := [(q_3, .inr (1, [.int 0]))]) hD hS hA [0] rfl
  refine va_callv (va_runI (As := [.int iv]) (rest := [.ref q_3]) ⟨hx, hb, hml, hown, hts⟩ (c_int_init l dC dI E q_3 iv H.size) (cwI 1 hts gJ6_valueOf_2dffe_J6_init_d00df rfl rfl rfl (hts (.initialized RJ6) (by decide +kernel)) (hts (.methodLink RJ6 199 yJ6_init_d00df) (by decide +kernel)) (hts (.instanceMethod yJ6_init_d00df) (by decide +kernel)) rfl (by decide +kernel) ⟨(Nat.le_of_ble_eq_true rfl), (Nat.le_of_ble_eq_true rfl)⟩) ⟨pre_blind, pre_call hPc hDc hKc hFc hE hZ hS⟩ rfl rfl hl.1 rfl (lv_room (Nat.le_of_ble_eq_true rfl)) dJ6_valueOf_2dffe_28 ⟨(Nat.le_of_ble_eq_true rfl), (Nat.le_of_ble_eq_true rfl)⟩) hS (fun q _ h => hFc q h) hFc (fun u t H1 locs1 ht hvm hw hB hz1 hk1 hS => ?_)
  obtain ⟨hP, hD, hK⟩ := pst_join (wc := [(q_3, .inr (1, [.int 0]))]) (wr := []) (w1 := [(q_3, .inr (1, [.int iv]))]) (tr := []) (t1 := []) hP hD hK [0] [] [] rfl rfl rfl (by decide) (by decide) hk1 hFc ht hvm hB
  generalize H1 = H at hP hS ⊢
  have hP : va_P (dC, dI) vwCl [(q_3, .inr (1, [.int iv]))] H := hP
  have hD : va_D A [(q_3, .inr (1, [.int iv]))] := hD
  have hK : va_K (dC, dI) vwCl [] s := hK
  refine W.widen (k := 1) (n := 1) (Nat.le_of_ble_eq_true rfl) (Nat.le_of_ble_eq_true rfl) ?_
  have hP9 := hP.sub (ws' := [(q_3, .inr (1, [.int iv]))]) [0] rfl
  have hD9 := hD.sub (ws' := [(q_3, .inr (1, [.int iv]))]) [0] (by decide) rfl
  have hK9 := hK.sub (tys' := []) [] rfl
  refine W.widen (k := 1) (n := 1) (Nat.le_of_ble_eq_true rfl) (Nat.le_of_ble_eq_true rfl) ?_
  exact W.aret (v := .ref q_3) hx hb hr (Or.inl ⟨_, rfl⟩) (Or.inr ⟨_, rfl⟩) (fun t ht hW => ⟨⟨(), q_3, rfl, trivial, pst_of hP9 hD9 hK9 ht hW⟩, hS.F ht⟩) hS.2.2 dJ6_valueOf_2dffe_31

set_option maxHeartbeats 4000000 in
set_option maxRecDepth 100000 in
theorem c_ship_init (l : Launch) (dC : Nat → ClassId) (dI : Nat → Nat → Nat) (E : Nat → Nat) (h : Nat) (sa : Int32) (sb : Int32) (sz : Nat) : Met l yX13_init wsX13_init ({ frames := 1, cells := 0, slots := 0, locals := 12 }) (va_Pc [.ref h, .int sa, .int sb] (pre dC dI E [(h, .inr (19, [.int 0, .int 0, .int 0, .int 0]))] [] sz)) (va_Qv (fun _ : Unit => True) (fun _ t => pst dC dI (va_A [(h, .inr (19, [.int 0, .int 0, .int 0, .int 0]))] sz) [(h, .inr (19, [.int sa, .int 0, .int 20, .int sb]))] [] t) (va_A [(h, .inr (19, [.int 0, .int 0, .int 0, .int 0]))] sz)) 0 0 (va_A [(h, .inr (19, [.int 0, .int 0, .int 0, .int 0]))] sz) := by
  refine Met.ofW (cc := cX13_init) (maxL := 3) (ret := none) (by decide) rfl ?_
  intro p e s m args below meth c s₁ B hml hv
  obtain ⟨rfl, hsz, hP, hK, hD0, hE, hZ0⟩ := hv
  have hx := B.exec
  have hb := B.bytes
  have hr := B.returns
  have hts := atoms_spec (ws := wsX13_init) B.pre
  have hown : s.vm.findClass RX13 = some m.cls := findClass_of_methodNamed B.named
  have hlocks := B.notSynchronized
  have hin : meth.name = "<init>" := (name_of_methodNamed B.named B.method).1
  subst hsz
  have hD := hD0.self (sz := s.heap.size)
  generalize hAe : va_A [(h, .inr (19, [.int 0, .int 0, .int 0, .int 0]))] s.heap.size = A at hD hZ0 ⊢
  have hZ := hZ0
  have hA : ∀ q : Nat, s.heap.size ≤ q → A q := fun q h => by rw [← hAe]; exact Or.inr h
  have hS : va_S A s.heap s.heap [] := va_S.rf
  have hP : va_P (dC, dI) vwCl [(h, .inr (19, [.int 0, .int 0, .int 0, .int 0]))] s.heap := hP
  have hl := lv_entry ([.ref h, .int sa, .int sb]) (n := 3) (Nat.le_of_ble_eq_true rfl)
  rw [lg_entry_eq]
  generalize (lg_sl ([.ref h, .int sa, .int sb]) ++ List.replicate (3 - (lg_sl ([.ref h, .int sa, .int sb])).length) Slot.unset).toArray = ls at hl ⊢
  have hl : lv_has ls 3 [(0, .ref h), (1, .int sa), (2, .int sb)] := hl
  refine lv_aload_n hx hb dX13_init_0 rfl (lv_at hl 0 rfl) ?_
  refine W.objInit hx hb hown (hts (.methodLink RX13 1 objectInit) (by decide +kernel)) (hts (.instanceMethod objectInit) (by decide +kernel)) (hts (.code objectInit ⟨#[0xb1]⟩ 1 none) (by decide +kernel)) rfl (by rw [hml]; exact hl.1) rfl dX13_init_1 (Nat.le_of_ble_eq_true rfl) (Nat.le_of_ble_eq_true rfl) ?_
  refine W.eq (g2 := F0 m 4 ls []) rfl ?_
  refine lv_aload_n hx hb dX13_init_4 rfl (lv_at hl 0 rfl) ?_
  refine lv_iconst (v := 0) hx hb dX13_init_5 (by decide) ?_
  refine va_put (D := (dC, dI)) (ci := 19) (v := .int 0) (ty := .int) (C := RX13) (T := TX13) (N := 4) hx hb hts (by decide +kernel) tyX13 tyX13_ok nmX13 hown hK hP hD hS 0 rfl rfl 1 (by decide) (hts (.fieldLink RX13 7 "OrbitdockModel$Ship" "speed" "I") (by decide +kernel)) (fun _ h9 => h9) rfl (by decide +kernel) rfl rfl (Nat.le_of_ble_eq_true rfl) dX13_init_6 (fun H locs hP hD hS => ?_)
  have hP : va_P (dC, dI) vwCl [(h, .inr (19, [.int 0, .int 0, .int 0, .int 0]))] H := hP
  have hD : va_D A [(h, .inr (19, [.int 0, .int 0, .int 0, .int 0]))] := hD
  refine lv_aload_n hx hb dX13_init_9 rfl (lv_at hl 0 rfl) ?_
  refine lv_bipush (v := 20) hx hb dX13_init_10 (by decide) ?_
  refine va_put (D := (dC, dI)) (ci := 19) (v := .int 20) (ty := .int) (C := RX13) (T := TX13) (N := 4) hx hb hts (by decide +kernel) tyX13 tyX13_ok nmX13 hown hK hP hD hS 0 rfl rfl 2 (by decide) (hts (.fieldLink RX13 13 "OrbitdockModel$Ship" "fuel" "I") (by decide +kernel)) (fun _ h9 => h9) rfl (by decide +kernel) rfl rfl (Nat.le_of_ble_eq_true rfl) dX13_init_12 (fun H locs hP hD hS => ?_)
  have hP : va_P (dC, dI) vwCl [(h, .inr (19, [.int 0, .int 0, .int 20, .int 0]))] H := hP
  have hD : va_D A [(h, .inr (19, [.int 0, .int 0, .int 20, .int 0]))] := hD
  refine lv_aload_n hx hb dX13_init_15 rfl (lv_at hl 0 rfl) ?_
  refine lv_iload_n hx hb dX13_init_16 rfl (lv_at hl 1 rfl) ?_
  refine va_put (D := (dC, dI)) (ci := 19) (v := .int sa) (ty := .int) (C := RX13) (T := TX13) (N := 4) hx hb hts (by decide +kernel) tyX13 tyX13_ok nmX13 hown hK hP hD hS 0 rfl rfl 0 (by decide) (hts (.fieldLink RX13 16 "OrbitdockModel$Ship" "distance" "I") (by decide +kernel)) (fun _ h9 => h9) rfl (by decide +kernel) rfl rfl (Nat.le_of_ble_eq_true rfl) dX13_init_17 (fun H locs hP hD hS => ?_)
  have hP : va_P (dC, dI) vwCl [(h, .inr (19, [.int sa, .int 0, .int 20, .int 0]))] H := hP
  have hD : va_D A [(h, .inr (19, [.int sa, .int 0, .int 20, .int 0]))] := hD
  refine lv_aload_n hx hb dX13_init_20 rfl (lv_at hl 0 rfl) ?_
  refine lv_iload_n hx hb dX13_init_21 rfl (lv_at hl 2 rfl) ?_
  refine va_putF (D := (dC, dI)) (ci := 19) (v := .int sb) (ty := .int) (C := RX13) (T := TX13) (N := 4) hx hb hts (by decide +kernel) tyX13 tyX13_ok nmX13 hown hK hP hD hS 0 rfl rfl 3 (by decide) (hts (.fieldLink RX13 19 "OrbitdockModel$Ship" "water" "I") (by decide +kernel)) (fun _ h9 => h9) rfl hin rfl (by decide +kernel) rfl rfl (Nat.le_of_ble_eq_true rfl) dX13_init_22 (fun H locs hP hD hS => ?_)
  have hP : va_P (dC, dI) vwCl [(h, .inr (19, [.int sa, .int 0, .int 20, .int sb]))] H := hP
  have hD : va_D A [(h, .inr (19, [.int sa, .int 0, .int 20, .int sb]))] := hD
  have hP9 := hP.sub (ws' := [(h, .inr (19, [.int sa, .int 0, .int 20, .int sb]))]) [0] rfl
  have hD9 := hD.sub (ws' := [(h, .inr (19, [.int sa, .int 0, .int 20, .int sb]))]) [0] (by decide) rfl
  have hK9 := hK.sub (tys' := []) [] rfl
  refine W.widen (k := 0) (n := 0) (Nat.le_of_ble_eq_true rfl) (Nat.le_of_ble_eq_true rfl) ?_
  exact W.vret hx hb hr (fun t ht hW => ⟨⟨(), rfl, trivial, pst_of hP9 hD9 hK9 ht hW⟩, hS.F ht⟩) hS.2.2 dX13_init_25

set_option maxHeartbeats 4000000 in
set_option maxRecDepth 100000 in
theorem c_rm_addRoom_c (l : Launch) (dC : Nat → ClassId) (dI : Nat → Nat → Nat) (E : Nat → Nat) (x : Nat) (s0 : Nat) (l0 : Nat) (l1 : Nat) (l2 : Nat) (l3 : Nat) (l4 : Nat) (l5 : Nat) (l6 : Nat) (l7 : Nat) (l8 : Nat) (th : Int32) (a : Int32) (sz : Nat) (hla : ¬ a < 0) (hua : ¬ 200 < a) (h1 : ¬ a < (-128)) (h2 : ¬ 127 < a) : Met l yX15_addRoom wsX15_addRoom ({ frames := 5, cells := 3, slots := 30, locals := 101 }) (va_Pc [.ref x, .int a] (pre dC dI E [(x, .inr (21, [.ref s0, .int th])), (s0, .inr (20, [.ref l0, .ref l1, .ref l2, .ref l3, .ref l4, .ref l5, .ref l6, .ref l7, .ref l8, .int 10, .int 100, .int 50, .int 0, .int 0])), (l0, .inr (5, [.int 0, .ref (E 0), .int 0])), (l1, .inr (5, [.int 0, .ref (E 0), .int 0])), (l2, .inr (5, [.int 0, .ref (E 0), .int 0]))] [] sz)) (va_Qi (fun (r : Int32) (_ : Unit) => r = 0) (fun _ t => pst dC dI (va_A [(x, .inr (21, [.ref s0, .int th])), (s0, .inr (20, [.ref l0, .ref l1, .ref l2, .ref l3, .ref l4, .ref l5, .ref l6, .ref l7, .ref l8, .int 10, .int 100, .int 50, .int 0, .int 0])), (l0, .inr (5, [.int 0, .ref (E 0), .int 0])), (l1, .inr (5, [.int 0, .ref (E 0), .int 0])), (l2, .inr (5, [.int 0, .ref (E 0), .int 0]))] sz) [(x, .inr (21, [.ref s0, .int 0]))] [] t) (va_A [(x, .inr (21, [.ref s0, .int th])), (s0, .inr (20, [.ref l0, .ref l1, .ref l2, .ref l3, .ref l4, .ref l5, .ref l6, .ref l7, .ref l8, .int 10, .int 100, .int 50, .int 0, .int 0])), (l0, .inr (5, [.int 0, .ref (E 0), .int 0])), (l1, .inr (5, [.int 0, .ref (E 0), .int 0])), (l2, .inr (5, [.int 0, .ref (E 0), .int 0]))] sz)) 3 30 (va_A [(x, .inr (21, [.ref s0, .int th])), (s0, .inr (20, [.ref l0, .ref l1, .ref l2, .ref l3, .ref l4, .ref l5, .ref l6, .ref l7, .ref l8, .int 10, .int 100, .int 50, .int 0, .int 0])), (l0, .inr (5, [.int 0, .ref (E 0), .int 0])), (l1, .inr (5, [.int 0, .ref (E 0), .int 0])), (l2, .inr (5, [.int 0, .ref (E 0), .int 0]))] sz) := by
  refine Met.ofW (cc := cX15_addRoom) (maxL := 2) (ret := (some .int)) (by decide) rfl ?_
  intro p e s m args below meth c s₁ B hml hv
  obtain ⟨rfl, hsz, hP, hK, hD0, hE, hZ0⟩ := hv
  have hx := B.exec
  have hb := B.bytes
  have hr := B.returns
  have hts := atoms_spec (ws := wsX15_addRoom) B.pre
  have hown : s.vm.findClass RX15 = some m.cls := findClass_of_methodNamed B.named
  have hlocks := B.notSynchronized
  subst hsz
  have hD := hD0.self (sz := s.heap.size)
  generalize hAe : va_A [(x, .inr (21, [.ref s0, .int th])), (s0, .inr (20, [.ref l0, .ref l1, .ref l2, .ref l3, .ref l4, .ref l5, .ref l6, .ref l7, .ref l8, .int 10, .int 100, .int 50, .int 0, .int 0])), (l0, .inr (5, [.int 0, .ref (E 0), .int 0])), (l1, .inr (5, [.int 0, .ref (E 0), .int 0])), (l2, .inr (5, [.int 0, .ref (E 0), .int 0]))] s.heap.size = A at hD hZ0 ⊢
  have hZ := hZ0
  have hA : ∀ q : Nat, s.heap.size ≤ q → A q := fun q h => by rw [← hAe]; exact Or.inr h
  have hS : va_S A s.heap s.heap [] := va_S.rf
  have hP : va_P (dC, dI) vwCl [(x, .inr (21, [.ref s0, .int th])), (s0, .inr (20, [.ref l0, .ref l1, .ref l2, .ref l3, .ref l4, .ref l5, .ref l6, .ref l7, .ref l8, .int 10, .int 100, .int 50, .int 0, .int 0])), (l0, .inr (5, [.int 0, .ref (E 0), .int 0])), (l1, .inr (5, [.int 0, .ref (E 0), .int 0])), (l2, .inr (5, [.int 0, .ref (E 0), .int 0]))] s.heap := hP
  have hl := lv_entry ([.ref x, .int a]) (n := 2) (Nat.le_of_ble_eq_true rfl)
  rw [lg_entry_eq]
  generalize (lg_sl ([.ref x, .int a]) ++ List.replicate (2 - (lg_sl ([.ref x, .int a])).length) Slot.unset).toArray = ls at hl ⊢
  have hl : lv_has ls 2 [(0, .ref x), (1, .int a)] := hl
  refine lv_aload_n hx hb dX15_addRoom_0 rfl (lv_at hl 0 rfl) ?_
  refine lv_iload_n hx hb dX15_addRoom_1 rfl (lv_at hl 1 rfl) ?_
  refine lv_iconst (v := 0) hx hb dX15_addRoom_2 (by decide) ?_
  refine lv_sipush (v := 200) hx hb dX15_addRoom_3 (by decide) ?_
  have hPc := hP.sub (ws' := []) [] rfl
  have hDc := hD.sub (ws' := []) [] (by decide) rfl
  have hKc := hK.sub (tys' := []) [] rfl
  have hFc := va_free (wc := []) hD hS hA [] rfl
  refine va_calli (va_runS (As := [.int a, .int 0, .int 200]) (rest := [.ref x]) ⟨hx, hb, hml, hown, hts⟩ (c_rm_isIn_y l dC dI E a 0 200 s.heap.size hla hua) (va_cwS 3 hts gX15_addRoom_X15_isIn rfl rfl rfl (by decide +kernel) ⟨(Nat.le_of_ble_eq_true rfl), (Nat.le_of_ble_eq_true rfl)⟩) ⟨pre_blind, pre_call hPc hDc hKc hFc hE hZ hS⟩ rfl rfl hl.1 rfl (lv_room (Nat.le_of_ble_eq_true rfl)) dX15_addRoom_6 ⟨(Nat.le_of_ble_eq_true rfl), (Nat.le_of_ble_eq_true rfl)⟩) hS (fun q _ h => hFc q h) hFc (fun r u t H1 locs1 ht hvm hw hB hz1 hk1 hS => ?_)
  have hw9 : r = 1 := hw
  rw [hw9]
  obtain ⟨hP, hD, hK⟩ := pst_join (wc := []) (wr := [(x, .inr (21, [.ref s0, .int th])), (s0, .inr (20, [.ref l0, .ref l1, .ref l2, .ref l3, .ref l4, .ref l5, .ref l6, .ref l7, .ref l8, .int 10, .int 100, .int 50, .int 0, .int 0])), (l0, .inr (5, [.int 0, .ref (E 0), .int 0])), (l1, .inr (5, [.int 0, .ref (E 0), .int 0])), (l2, .inr (5, [.int 0, .ref (E 0), .int 0]))]) (w1 := []) (tr := []) (t1 := []) hP hD hK [] [0, 1, 2, 3, 4] [] rfl rfl rfl (by decide) (by decide) hk1 hFc ht hvm hB
  generalize H1 = H at hP hS ⊢
  have hP : va_P (dC, dI) vwCl [(x, .inr (21, [.ref s0, .int th])), (s0, .inr (20, [.ref l0, .ref l1, .ref l2, .ref l3, .ref l4, .ref l5, .ref l6, .ref l7, .ref l8, .int 10, .int 100, .int 50, .int 0, .int 0])), (l0, .inr (5, [.int 0, .ref (E 0), .int 0])), (l1, .inr (5, [.int 0, .ref (E 0), .int 0])), (l2, .inr (5, [.int 0, .ref (E 0), .int 0]))] H := hP
  have hD : va_D A [(x, .inr (21, [.ref s0, .int th])), (s0, .inr (20, [.ref l0, .ref l1, .ref l2, .ref l3, .ref l4, .ref l5, .ref l6, .ref l7, .ref l8, .int 10, .int 100, .int 50, .int 0, .int 0])), (l0, .inr (5, [.int 0, .ref (E 0), .int 0])), (l1, .inr (5, [.int 0, .ref (E 0), .int 0])), (l2, .inr (5, [.int 0, .ref (E 0), .int 0]))] := hD
  have hK : va_K (dC, dI) vwCl [] s := hK
  refine W.widen (k := 0) (n := 0) (Nat.le_of_ble_eq_true rfl) (Nat.le_of_ble_eq_true rfl) ?_
  refine lv_iconst (v := 1) hx hb dX15_addRoom_9 (by decide) ?_
  have hPc := hP.sub (ws' := [(x, .inr (21, [.ref s0, .int th]))]) [0] rfl
  have hDc := hD.sub (ws' := [(x, .inr (21, [.ref s0, .int th]))]) [0] (by decide) rfl
  have hKc := hK.sub (tys' := []) [] rfl
  have hFc := va_free (wc := [(x, .inr (21, [.ref s0, .int th]))]) hD hS hA [0] rfl
  refine va_calli (va_runV (As := [.int 1, .int 1]) (rest := []) ⟨hx, hb, hml, hown, hts⟩ (c_rm_no_1 l dC dI E x s0 th 1 H.size) (cwV 2 hts gX15_addRoom_X15_no rfl rfl rfl (by decide +kernel) ⟨(Nat.le_of_ble_eq_true rfl), (Nat.le_of_ble_eq_true rfl)⟩) ⟨pre_blind, va_recv hKc hPc (ci := 21) (q0 := 0) rfl rfl, pre_call hPc hDc hKc hFc hE hZ hS⟩ rfl rfl hl.1 rfl (lv_room (Nat.le_of_ble_eq_true rfl)) dX15_addRoom_10 ⟨(Nat.le_of_ble_eq_true rfl), (Nat.le_of_ble_eq_true rfl)⟩) hS (fun q _ h => hFc q h) hFc (fun r u t H1 locs1 ht hvm hw hB hz1 hk1 hS => ?_)
  have hw9 : r = 0 := hw
  rw [hw9]
  obtain ⟨hP, hD, hK⟩ := pst_join (wc := [(x, .inr (21, [.ref s0, .int th]))]) (wr := [(s0, .inr (20, [.ref l0, .ref l1, .ref l2, .ref l3, .ref l4, .ref l5, .ref l6, .ref l7, .ref l8, .int 10, .int 100, .int 50, .int 0, .int 0])), (l0, .inr (5, [.int 0, .ref (E 0), .int 0])), (l1, .inr (5, [.int 0, .ref (E 0), .int 0])), (l2, .inr (5, [.int 0, .ref (E 0), .int 0]))]) (w1 := [(x, .inr (21, [.ref s0, .int 0]))]) (tr := []) (t1 := []) hP hD hK [0] [1, 2, 3, 4] [] rfl rfl rfl (by decide) (by decide) hk1 hFc ht hvm hB
  generalize H1 = H at hP hS ⊢
  have hP : va_P (dC, dI) vwCl [(s0, .inr (20, [.ref l0, .ref l1, .ref l2, .ref l3, .ref l4, .ref l5, .ref l6, .ref l7, .ref l8, .int 10, .int 100, .int 50, .int 0, .int 0])), (l0, .inr (5, [.int 0, .ref (E 0), .int 0])), (l1, .inr (5, [.int 0, .ref (E 0), .int 0])), (l2, .inr (5, [.int 0, .ref (E 0), .int 0])), (x, .inr (21, [.ref s0, .int 0]))] H := hP
  have hD : va_D A [(s0, .inr (20, [.ref l0, .ref l1, .ref l2, .ref l3, .ref l4, .ref l5, .ref l6, .ref l7, .ref l8, .int 10, .int 100, .int 50, .int 0, .int 0])), (l0, .inr (5, [.int 0, .ref (E 0), .int 0])), (l1, .inr (5, [.int 0, .ref (E 0), .int 0])), (l2, .inr (5, [.int 0, .ref (E 0), .int 0])), (x, .inr (21, [.ref s0, .int 0]))] := hD
  have hK : va_K (dC, dI) vwCl [] s := hK
  refine W.widen (k := 0) (n := 0) (Nat.le_of_ble_eq_true rfl) (Nat.le_of_ble_eq_true rfl) ?_
  refine lv_if_ne (tgt := 46) hx hb dX15_addRoom_13 (by decide) (fun c9 => absurd (by decide) c9) (fun _ => ?_)
  refine lv_aload_n hx hb dX15_addRoom_16 rfl (lv_at hl 0 rfl) ?_
  refine lv_aload_n hx hb dX15_addRoom_17 rfl (lv_at hl 0 rfl) ?_
  refine va_get (D := (dC, dI)) (ci := 21) (v := .ref s0) (C := RX15) (T := TX15) (N := 2) hx hb hts (by decide +kernel) hown hK hP 4 rfl rfl 0 (by decide) (hts (.fieldLink RX15 10 "OrbitdockModel" "station" "LOrbitdockModel$Station;") (by decide +kernel)) (fun _ h9 => h9) rfl dX15_addRoom_18 ?_
  refine va_get (D := (dC, dI)) (ci := 20) (v := .ref l0) (C := RX14) (T := TX14) (N := 14) hx hb hts (by decide +kernel) hown hK hP 0 rfl rfl 0 (by decide) (hts (.fieldLink RX15 20 "OrbitdockModel$Station" "oxygen" "Ljava/util/List;") (by decide +kernel)) (fun _ h9 => h9) rfl dX15_addRoom_21 ?_
  have hPc := hP.sub (ws' := [(l0, .inr (5, [.int 0, .ref (E 0), .int 0]))]) [1] rfl
  have hDc := hD.sub (ws' := [(l0, .inr (5, [.int 0, .ref (E 0), .int 0]))]) [1] (by decide) rfl
  have hKc := hK.sub (tys' := []) [] rfl
  have hFc := va_free (wc := [(l0, .inr (5, [.int 0, .ref (E 0), .int 0]))]) hD hS hA [1] rfl
  refine va_callFi (va_runF (As := []) (rest := [.ref x]) (hK.1 5 _ rfl).2 ⟨hx, hb, hml, hown, hts⟩ (c_al_size l dC dI E l0 (E 0) 0 0 H.size) (va_cwF 0 hts gX15_addRoom_Jx4a65c_size_8abf5_f24Jx4a65c rfl rfl rfl hE.1.1 (by decide +kernel) ⟨(Nat.le_of_ble_eq_true rfl), (Nat.le_of_ble_eq_true rfl)⟩) ⟨pre_blind, va_recv hKc hPc (ci := 5) (q0 := 0) rfl rfl, pre_call hPc hDc hKc hFc hE hZ hS⟩ rfl rfl hl.1 rfl (lv_room (Nat.le_of_ble_eq_true rfl)) dX15_addRoom_24 ⟨(Nat.le_of_ble_eq_true rfl), (Nat.le_of_ble_eq_true rfl)⟩) hS (fun q _ h => hFc q h) hFc (fun r u t H1 locs1 ht hvm hw hB hz1 hk1 hS => ?_)
  have hw9 : r = 0 := hw
  rw [hw9]
  obtain ⟨hP, hD, hK⟩ := pst_join (wc := [(l0, .inr (5, [.int 0, .ref (E 0), .int 0]))]) (wr := [(s0, .inr (20, [.ref l0, .ref l1, .ref l2, .ref l3, .ref l4, .ref l5, .ref l6, .ref l7, .ref l8, .int 10, .int 100, .int 50, .int 0, .int 0])), (l1, .inr (5, [.int 0, .ref (E 0), .int 0])), (l2, .inr (5, [.int 0, .ref (E 0), .int 0])), (x, .inr (21, [.ref s0, .int 0]))]) (w1 := [(l0, .inr (5, [.int 0, .ref (E 0), .int 0]))]) (tr := []) (t1 := []) hP hD hK [1] [0, 2, 3, 4] [] rfl rfl rfl (by decide) (by decide) hk1 hFc ht hvm hB
  generalize H1 = H at hP hS ⊢
  have hP : va_P (dC, dI) vwCl [(s0, .inr (20, [.ref l0, .ref l1, .ref l2, .ref l3, .ref l4, .ref l5, .ref l6, .ref l7, .ref l8, .int 10, .int 100, .int 50, .int 0, .int 0])), (l1, .inr (5, [.int 0, .ref (E 0), .int 0])), (l2, .inr (5, [.int 0, .ref (E 0), .int 0])), (x, .inr (21, [.ref s0, .int 0])), (l0, .inr (5, [.int 0, .ref (E 0), .int 0]))] H := hP
  have hD : va_D A [(s0, .inr (20, [.ref l0, .ref l1, .ref l2, .ref l3, .ref l4, .ref l5, .ref l6, .ref l7, .ref l8, .int 10, .int 100, .int 50, .int 0, .int 0])), (l1, .inr (5, [.int 0, .ref (E 0), .int 0])), (l2, .inr (5, [.int 0, .ref (E 0), .int 0])), (x, .inr (21, [.ref s0, .int 0])), (l0, .inr (5, [.int 0, .ref (E 0), .int 0]))] := hD
  have hK : va_K (dC, dI) vwCl [] s := hK
  refine W.widen (k := 0) (n := 0) (Nat.le_of_ble_eq_true rfl) (Nat.le_of_ble_eq_true rfl) ?_
  refine lv_bipush (v := 6) hx hb dX15_addRoom_29 (by decide) ?_
  refine lv_icmp_ge (tgt := 38) hx hb dX15_addRoom_31 (by decide) (fun c9 => absurd c9 (by decide)) (fun _ => ?_)
  refine lv_iconst (v := 1) hx hb dX15_addRoom_34 (by decide) ?_
  refine lv_goto (tgt := 39) hx hb dX15_addRoom_35 (by decide) ?_
  refine lv_iconst (v := 2) hx hb dX15_addRoom_39 (by decide) ?_
  have hPc := hP.sub (ws' := [(x, .inr (21, [.ref s0, .int 0]))]) [3] rfl
  have hDc := hD.sub (ws' := [(x, .inr (21, [.ref s0, .int 0]))]) [3] (by decide) rfl
  have hKc := hK.sub (tys' := []) [] rfl
  have hFc := va_free (wc := [(x, .inr (21, [.ref s0, .int 0]))]) hD hS hA [3] rfl
  refine va_calli (va_runV (As := [.int 1, .int 2]) (rest := []) ⟨hx, hb, hml, hown, hts⟩ (c_rm_no_1 l dC dI E x s0 0 2 H.size) (cwV 2 hts gX15_addRoom_X15_no rfl rfl rfl (by decide +kernel) ⟨(Nat.le_of_ble_eq_true rfl), (Nat.le_of_ble_eq_true rfl)⟩) ⟨pre_blind, va_recv hKc hPc (ci := 21) (q0 := 0) rfl rfl, pre_call hPc hDc hKc hFc hE hZ hS⟩ rfl rfl hl.1 rfl (lv_room (Nat.le_of_ble_eq_true rfl)) dX15_addRoom_40 ⟨(Nat.le_of_ble_eq_true rfl), (Nat.le_of_ble_eq_true rfl)⟩) hS (fun q _ h => hFc q h) hFc (fun r u t H1 locs1 ht hvm hw hB hz1 hk1 hS => ?_)
  have hw9 : r = 0 := hw
  rw [hw9]
  obtain ⟨hP, hD, hK⟩ := pst_join (wc := [(x, .inr (21, [.ref s0, .int 0]))]) (wr := [(s0, .inr (20, [.ref l0, .ref l1, .ref l2, .ref l3, .ref l4, .ref l5, .ref l6, .ref l7, .ref l8, .int 10, .int 100, .int 50, .int 0, .int 0])), (l1, .inr (5, [.int 0, .ref (E 0), .int 0])), (l2, .inr (5, [.int 0, .ref (E 0), .int 0])), (l0, .inr (5, [.int 0, .ref (E 0), .int 0]))]) (w1 := [(x, .inr (21, [.ref s0, .int 0]))]) (tr := []) (t1 := []) hP hD hK [3] [0, 1, 2, 4] [] rfl rfl rfl (by decide) (by decide) hk1 hFc ht hvm hB
  generalize H1 = H at hP hS ⊢
  have hP : va_P (dC, dI) vwCl [(s0, .inr (20, [.ref l0, .ref l1, .ref l2, .ref l3, .ref l4, .ref l5, .ref l6, .ref l7, .ref l8, .int 10, .int 100, .int 50, .int 0, .int 0])), (l1, .inr (5, [.int 0, .ref (E 0), .int 0])), (l2, .inr (5, [.int 0, .ref (E 0), .int 0])), (l0, .inr (5, [.int 0, .ref (E 0), .int 0])), (x, .inr (21, [.ref s0, .int 0]))] H := hP
  have hD : va_D A [(s0, .inr (20, [.ref l0, .ref l1, .ref l2, .ref l3, .ref l4, .ref l5, .ref l6, .ref l7, .ref l8, .int 10, .int 100, .int 50, .int 0, .int 0])), (l1, .inr (5, [.int 0, .ref (E 0), .int 0])), (l2, .inr (5, [.int 0, .ref (E 0), .int 0])), (l0, .inr (5, [.int 0, .ref (E 0), .int 0])), (x, .inr (21, [.ref s0, .int 0]))] := hD
  have hK : va_K (dC, dI) vwCl [] s := hK
  refine W.widen (k := 0) (n := 0) (Nat.le_of_ble_eq_true rfl) (Nat.le_of_ble_eq_true rfl) ?_
  refine lv_if_eq (tgt := 48) hx hb dX15_addRoom_43 (by decide) (fun _ => ?_) (fun c9 => absurd (by decide) c9)
  refine lv_aload_n hx hb dX15_addRoom_48 rfl (lv_at hl 0 rfl) ?_
  refine va_get (D := (dC, dI)) (ci := 21) (v := .ref s0) (C := RX15) (T := TX15) (N := 2) hx hb hts (by decide +kernel) hown hK hP 4 rfl rfl 0 (by decide) (hts (.fieldLink RX15 10 "OrbitdockModel" "station" "LOrbitdockModel$Station;") (by decide +kernel)) (fun _ h9 => h9) rfl dX15_addRoom_49 ?_
  refine va_get (D := (dC, dI)) (ci := 20) (v := .ref l0) (C := RX14) (T := TX14) (N := 14) hx hb hts (by decide +kernel) hown hK hP 0 rfl rfl 0 (by decide) (hts (.fieldLink RX15 20 "OrbitdockModel$Station" "oxygen" "Ljava/util/List;") (by decide +kernel)) (fun _ h9 => h9) rfl dX15_addRoom_52 ?_
  refine lv_iload_n hx hb dX15_addRoom_55 rfl (lv_at hl 1 rfl) ?_
  have hPc := hP.sub (ws' := []) [] rfl
  have hDc := hD.sub (ws' := []) [] (by decide) rfl
  have hKc := hK.sub (tys' := []) [] rfl
  have hFc := va_free (wc := []) hD hS hA [] rfl
  refine va_callr (va_runS (As := [.int a]) (rest := [.ref l0]) ⟨hx, hb, hml, hown, hts⟩ (c_valueOf_c l dC dI E a H.size h1 h2) (va_cwS 1 hts gX15_addRoom_J6_valueOf_2dffe rfl rfl rfl (by decide +kernel) ⟨(Nat.le_of_ble_eq_true rfl), (Nat.le_of_ble_eq_true rfl)⟩) ⟨pre_blind, pre_call hPc hDc hKc hFc hE hZ hS⟩ rfl rfl hl.1 rfl (lv_room (Nat.le_of_ble_eq_true rfl)) dX15_addRoom_56 ⟨(Nat.le_of_ble_eq_true rfl), (Nat.le_of_ble_eq_true rfl)⟩) hS (fun q _ h => hFc q h) hFc (fun u ra t H1 locs1 ht hvm hw hB hz1 hk1 hS => ?_)
  try dsimp only at hB
  obtain ⟨k_8, hra, hf0_9, hB⟩ := hB
  subst hra
  obtain ⟨hP, hD, hK⟩ := pst_join (wc := []) (wr := [(s0, .inr (20, [.ref l0, .ref l1, .ref l2, .ref l3, .ref l4, .ref l5, .ref l6, .ref l7, .ref l8, .int 10, .int 100, .int 50, .int 0, .int 0])), (l1, .inr (5, [.int 0, .ref (E 0), .int 0])), (l2, .inr (5, [.int 0, .ref (E 0), .int 0])), (l0, .inr (5, [.int 0, .ref (E 0), .int 0])), (x, .inr (21, [.ref s0, .int 0]))]) (w1 := []) (tr := []) (t1 := []) hP hD hK [] [0, 1, 2, 3, 4] [] rfl rfl rfl (by decide) (by decide) hk1 hFc ht hvm hB
  generalize H1 = H at hP hS ⊢
  have hP : va_P (dC, dI) vwCl [(s0, .inr (20, [.ref l0, .ref l1, .ref l2, .ref l3, .ref l4, .ref l5, .ref l6, .ref l7, .ref l8, .int 10, .int 100, .int 50, .int 0, .int 0])), (l1, .inr (5, [.int 0, .ref (E 0), .int 0])), (l2, .inr (5, [.int 0, .ref (E 0), .int 0])), (l0, .inr (5, [.int 0, .ref (E 0), .int 0])), (x, .inr (21, [.ref s0, .int 0]))] H := hP
  have hD : va_D A [(s0, .inr (20, [.ref l0, .ref l1, .ref l2, .ref l3, .ref l4, .ref l5, .ref l6, .ref l7, .ref l8, .int 10, .int 100, .int 50, .int 0, .int 0])), (l1, .inr (5, [.int 0, .ref (E 0), .int 0])), (l2, .inr (5, [.int 0, .ref (E 0), .int 0])), (l0, .inr (5, [.int 0, .ref (E 0), .int 0])), (x, .inr (21, [.ref s0, .int 0]))] := hD
  have hK : va_K (dC, dI) vwCl [] s := hK
  refine W.widen (k := 0) (n := 0) (Nat.le_of_ble_eq_true rfl) (Nat.le_of_ble_eq_true rfl) ?_
  have hPc := hP.sub (ws' := [(l0, .inr (5, [.int 0, .ref (E 0), .int 0]))]) [3] rfl
  have hDc := hD.sub (ws' := [(l0, .inr (5, [.int 0, .ref (E 0), .int 0]))]) [3] (by decide) rfl
  have hKc := hK.sub (tys' := []) [] rfl
  have hFc := va_free (wc := [(l0, .inr (5, [.int 0, .ref (E 0), .int 0]))]) hD hS hA [3] rfl
  refine va_callFi (va_runF (As := [.ref (E (100 + k_8))]) (rest := []) (hK.1 5 _ rfl).2 ⟨hx, hb, hml, hown, hts⟩ (c_al_add1c l dC dI E l0 k_8 H.size hf0_9) (va_cwF 1 hts gX15_addRoom_Jx4a65c_add_9ea2d_f53Jx4a65c rfl rfl rfl hE.1.2.2.2.1 (by decide +kernel) ⟨(Nat.le_of_ble_eq_true rfl), (Nat.le_of_ble_eq_true rfl)⟩) ⟨pre_blind, va_recv hKc hPc (ci := 5) (q0 := 0) rfl rfl, pre_call hPc hDc hKc hFc hE hZ hS⟩ rfl rfl hl.1 rfl (lv_room (Nat.le_of_ble_eq_true rfl)) dX15_addRoom_59 ⟨(Nat.le_of_ble_eq_true rfl), (Nat.le_of_ble_eq_true rfl)⟩) hS (fun q _ h => hFc q h) hFc (fun r u t H1 locs1 ht hvm hw hB hz1 hk1 hS => ?_)
  obtain ⟨ra_11, hB⟩ := hB
  have hw9 : r = 1 := hw
  rw [hw9]
  obtain ⟨hP, hD, hK⟩ := pst_join (wc := [(l0, .inr (5, [.int 0, .ref (E 0), .int 0]))]) (wr := [(s0, .inr (20, [.ref l0, .ref l1, .ref l2, .ref l3, .ref l4, .ref l5, .ref l6, .ref l7, .ref l8, .int 10, .int 100, .int 50, .int 0, .int 0])), (l1, .inr (5, [.int 0, .ref (E 0), .int 0])), (l2, .inr (5, [.int 0, .ref (E 0), .int 0])), (x, .inr (21, [.ref s0, .int 0]))]) (w1 := [(l0, .inr (5, [.int 1, .ref ra_11, .int 1]))]) (tr := []) (t1 := []) hP hD hK [3] [0, 1, 2, 4] [] rfl rfl rfl (by decide) (by decide) hk1 hFc ht hvm hB
  generalize H1 = H at hP hS ⊢
  have hP : va_P (dC, dI) vwCl [(s0, .inr (20, [.ref l0, .ref l1, .ref l2, .ref l3, .ref l4, .ref l5, .ref l6, .ref l7, .ref l8, .int 10, .int 100, .int 50, .int 0, .int 0])), (l1, .inr (5, [.int 0, .ref (E 0), .int 0])), (l2, .inr (5, [.int 0, .ref (E 0), .int 0])), (x, .inr (21, [.ref s0, .int 0])), (l0, .inr (5, [.int 1, .ref ra_11, .int 1]))] H := hP
  have hD : va_D A [(s0, .inr (20, [.ref l0, .ref l1, .ref l2, .ref l3, .ref l4, .ref l5, .ref l6, .ref l7, .ref l8, .int 10, .int 100, .int 50, .int 0, .int 0])), (l1, .inr (5, [.int 0, .ref (E 0), .int 0])), (l2, .inr (5, [.int 0, .ref (E 0), .int 0])), (x, .inr (21, [.ref s0, .int 0])), (l0, .inr (5, [.int 1, .ref ra_11, .int 1]))] := hD
  have hK : va_K (dC, dI) vwCl [] s := hK
  refine W.widen (k := 1) (n := 10) (Nat.le_of_ble_eq_true rfl) (Nat.le_of_ble_eq_true rfl) ?_
  refine lv_pop hx hb dX15_addRoom_64 rfl ?_
  refine lv_aload_n hx hb dX15_addRoom_65 rfl (lv_at hl 0 rfl) ?_
  refine va_get (D := (dC, dI)) (ci := 21) (v := .ref s0) (C := RX15) (T := TX15) (N := 2) hx hb hts (by decide +kernel) hown hK hP 3 rfl rfl 0 (by decide) (hts (.fieldLink RX15 10 "OrbitdockModel" "station" "LOrbitdockModel$Station;") (by decide +kernel)) (fun _ h9 => h9) rfl dX15_addRoom_66 ?_
  refine va_get (D := (dC, dI)) (ci := 20) (v := .ref l1) (C := RX14) (T := TX14) (N := 14) hx hb hts (by decide +kernel) hown hK hP 0 rfl rfl 1 (by decide) (hts (.fieldLink RX15 57 "OrbitdockModel$Station" "carbon" "Ljava/util/List;") (by decide +kernel)) (fun _ h9 => h9) rfl dX15_addRoom_69 ?_
  refine lv_iconst (v := 0) hx hb dX15_addRoom_72 (by decide) ?_
  have hPc := hP.sub (ws' := []) [] rfl
  have hDc := hD.sub (ws' := []) [] (by decide) rfl
  have hKc := hK.sub (tys' := []) [] rfl
  have hFc := va_free (wc := []) hD hS hA [] rfl
  refine va_callr (va_runS (As := [.int 0]) (rest := [.ref l1]) ⟨hx, hb, hml, hown, hts⟩ (c_valueOf_c l dC dI E 0 H.size (by decide) (by decide)) (va_cwS 1 hts gX15_addRoom_J6_valueOf_2dffe rfl rfl rfl (by decide +kernel) ⟨(Nat.le_of_ble_eq_true rfl), (Nat.le_of_ble_eq_true rfl)⟩) ⟨pre_blind, pre_call hPc hDc hKc hFc hE hZ hS⟩ rfl rfl hl.1 rfl (lv_room (Nat.le_of_ble_eq_true rfl)) dX15_addRoom_73 ⟨(Nat.le_of_ble_eq_true rfl), (Nat.le_of_ble_eq_true rfl)⟩) hS (fun q _ h => hFc q h) hFc (fun u ra t H1 locs1 ht hvm hw hB hz1 hk1 hS => ?_)
  try dsimp only at hB
  obtain ⟨k_13, hra, hf0_14, hB⟩ := hB
  subst hra
  obtain ⟨hP, hD, hK⟩ := pst_join (wc := []) (wr := [(s0, .inr (20, [.ref l0, .ref l1, .ref l2, .ref l3, .ref l4, .ref l5, .ref l6, .ref l7, .ref l8, .int 10, .int 100, .int 50, .int 0, .int 0])), (l1, .inr (5, [.int 0, .ref (E 0), .int 0])), (l2, .inr (5, [.int 0, .ref (E 0), .int 0])), (x, .inr (21, [.ref s0, .int 0])), (l0, .inr (5, [.int 1, .ref ra_11, .int 1]))]) (w1 := []) (tr := []) (t1 := []) hP hD hK [] [0, 1, 2, 3, 4] [] rfl rfl rfl (by decide) (by decide) hk1 hFc ht hvm hB
  generalize H1 = H at hP hS ⊢
  have hP : va_P (dC, dI) vwCl [(s0, .inr (20, [.ref l0, .ref l1, .ref l2, .ref l3, .ref l4, .ref l5, .ref l6, .ref l7, .ref l8, .int 10, .int 100, .int 50, .int 0, .int 0])), (l1, .inr (5, [.int 0, .ref (E 0), .int 0])), (l2, .inr (5, [.int 0, .ref (E 0), .int 0])), (x, .inr (21, [.ref s0, .int 0])), (l0, .inr (5, [.int 1, .ref ra_11, .int 1]))] H := hP
  have hD : va_D A [(s0, .inr (20, [.ref l0, .ref l1, .ref l2, .ref l3, .ref l4, .ref l5, .ref l6, .ref l7, .ref l8, .int 10, .int 100, .int 50, .int 0, .int 0])), (l1, .inr (5, [.int 0, .ref (E 0), .int 0])), (l2, .inr (5, [.int 0, .ref (E 0), .int 0])), (x, .inr (21, [.ref s0, .int 0])), (l0, .inr (5, [.int 1, .ref ra_11, .int 1]))] := hD
  have hK : va_K (dC, dI) vwCl [] s := hK
  refine W.widen (k := 1) (n := 10) (Nat.le_of_ble_eq_true rfl) (Nat.le_of_ble_eq_true rfl) ?_
  have hPc := hP.sub (ws' := [(l1, .inr (5, [.int 0, .ref (E 0), .int 0]))]) [1] rfl
  have hDc := hD.sub (ws' := [(l1, .inr (5, [.int 0, .ref (E 0), .int 0]))]) [1] (by decide) rfl
  have hKc := hK.sub (tys' := []) [] rfl
  have hFc := va_free (wc := [(l1, .inr (5, [.int 0, .ref (E 0), .int 0]))]) hD hS hA [1] rfl
  refine va_callFi (va_runF (As := [.ref (E (100 + k_13))]) (rest := []) (hK.1 5 _ rfl).2 ⟨hx, hb, hml, hown, hts⟩ (c_al_add1c l dC dI E l1 k_13 H.size hf0_14) (va_cwF 1 hts gX15_addRoom_Jx4a65c_add_9ea2d_f53Jx4a65c rfl rfl rfl hE.1.2.2.2.1 (by decide +kernel) ⟨(Nat.le_of_ble_eq_true rfl), (Nat.le_of_ble_eq_true rfl)⟩) ⟨pre_blind, va_recv hKc hPc (ci := 5) (q0 := 0) rfl rfl, pre_call hPc hDc hKc hFc hE hZ hS⟩ rfl rfl hl.1 rfl (lv_room (Nat.le_of_ble_eq_true rfl)) dX15_addRoom_76 ⟨(Nat.le_of_ble_eq_true rfl), (Nat.le_of_ble_eq_true rfl)⟩) hS (fun q _ h => hFc q h) hFc (fun r u t H1 locs1 ht hvm hw hB hz1 hk1 hS => ?_)
  obtain ⟨ra_16, hB⟩ := hB
  have hw9 : r = 1 := hw
  rw [hw9]
  obtain ⟨hP, hD, hK⟩ := pst_join (wc := [(l1, .inr (5, [.int 0, .ref (E 0), .int 0]))]) (wr := [(s0, .inr (20, [.ref l0, .ref l1, .ref l2, .ref l3, .ref l4, .ref l5, .ref l6, .ref l7, .ref l8, .int 10, .int 100, .int 50, .int 0, .int 0])), (l2, .inr (5, [.int 0, .ref (E 0), .int 0])), (x, .inr (21, [.ref s0, .int 0])), (l0, .inr (5, [.int 1, .ref ra_11, .int 1]))]) (w1 := [(l1, .inr (5, [.int 1, .ref ra_16, .int 1]))]) (tr := []) (t1 := []) hP hD hK [1] [0, 2, 3, 4] [] rfl rfl rfl (by decide) (by decide) hk1 hFc ht hvm hB
  generalize H1 = H at hP hS ⊢
  have hP : va_P (dC, dI) vwCl [(s0, .inr (20, [.ref l0, .ref l1, .ref l2, .ref l3, .ref l4, .ref l5, .ref l6, .ref l7, .ref l8, .int 10, .int 100, .int 50, .int 0, .int 0])), (l2, .inr (5, [.int 0, .ref (E 0), .int 0])), (x, .inr (21, [.ref s0, .int 0])), (l0, .inr (5, [.int 1, .ref ra_11, .int 1])), (l1, .inr (5, [.int 1, .ref ra_16, .int 1]))] H := hP
  have hD : va_D A [(s0, .inr (20, [.ref l0, .ref l1, .ref l2, .ref l3, .ref l4, .ref l5, .ref l6, .ref l7, .ref l8, .int 10, .int 100, .int 50, .int 0, .int 0])), (l2, .inr (5, [.int 0, .ref (E 0), .int 0])), (x, .inr (21, [.ref s0, .int 0])), (l0, .inr (5, [.int 1, .ref ra_11, .int 1])), (l1, .inr (5, [.int 1, .ref ra_16, .int 1]))] := hD
  have hK : va_K (dC, dI) vwCl [] s := hK
  refine W.widen (k := 2) (n := 20) (Nat.le_of_ble_eq_true rfl) (Nat.le_of_ble_eq_true rfl) ?_
  refine lv_pop hx hb dX15_addRoom_81 rfl ?_
  refine lv_aload_n hx hb dX15_addRoom_82 rfl (lv_at hl 0 rfl) ?_
  refine va_get (D := (dC, dI)) (ci := 21) (v := .ref s0) (C := RX15) (T := TX15) (N := 2) hx hb hts (by decide +kernel) hown hK hP 2 rfl rfl 0 (by decide) (hts (.fieldLink RX15 10 "OrbitdockModel" "station" "LOrbitdockModel$Station;") (by decide +kernel)) (fun _ h9 => h9) rfl dX15_addRoom_83 ?_
  refine va_get (D := (dC, dI)) (ci := 20) (v := .ref l2) (C := RX14) (T := TX14) (N := 14) hx hb hts (by decide +kernel) hown hK hP 0 rfl rfl 2 (by decide) (hts (.fieldLink RX15 60 "OrbitdockModel$Station" "leaks" "Ljava/util/List;") (by decide +kernel)) (fun _ h9 => h9) rfl dX15_addRoom_86 ?_
  refine lv_iconst (v := 0) hx hb dX15_addRoom_89 (by decide) ?_
  have hPc := hP.sub (ws' := []) [] rfl
  have hDc := hD.sub (ws' := []) [] (by decide) rfl
  have hKc := hK.sub (tys' := []) [] rfl
  have hFc := va_free (wc := []) hD hS hA [] rfl
  refine va_callr (va_runS (As := [.int 0]) (rest := [.ref l2]) ⟨hx, hb, hml, hown, hts⟩ (c_valueOf_c l dC dI E 0 H.size (by decide) (by decide)) (va_cwS 1 hts gX15_addRoom_J6_valueOf_2dffe rfl rfl rfl (by decide +kernel) ⟨(Nat.le_of_ble_eq_true rfl), (Nat.le_of_ble_eq_true rfl)⟩) ⟨pre_blind, pre_call hPc hDc hKc hFc hE hZ hS⟩ rfl rfl hl.1 rfl (lv_room (Nat.le_of_ble_eq_true rfl)) dX15_addRoom_90 ⟨(Nat.le_of_ble_eq_true rfl), (Nat.le_of_ble_eq_true rfl)⟩) hS (fun q _ h => hFc q h) hFc (fun u ra t H1 locs1 ht hvm hw hB hz1 hk1 hS => ?_)
  try dsimp only at hB
  obtain ⟨k_18, hra, hf0_19, hB⟩ := hB
  subst hra
  obtain ⟨hP, hD, hK⟩ := pst_join (wc := []) (wr := [(s0, .inr (20, [.ref l0, .ref l1, .ref l2, .ref l3, .ref l4, .ref l5, .ref l6, .ref l7, .ref l8, .int 10, .int 100, .int 50, .int 0, .int 0])), (l2, .inr (5, [.int 0, .ref (E 0), .int 0])), (x, .inr (21, [.ref s0, .int 0])), (l0, .inr (5, [.int 1, .ref ra_11, .int 1])), (l1, .inr (5, [.int 1, .ref ra_16, .int 1]))]) (w1 := []) (tr := []) (t1 := []) hP hD hK [] [0, 1, 2, 3, 4] [] rfl rfl rfl (by decide) (by decide) hk1 hFc ht hvm hB
  generalize H1 = H at hP hS ⊢
  have hP : va_P (dC, dI) vwCl [(s0, .inr (20, [.ref l0, .ref l1, .ref l2, .ref l3, .ref l4, .ref l5, .ref l6, .ref l7, .ref l8, .int 10, .int 100, .int 50, .int 0, .int 0])), (l2, .inr (5, [.int 0, .ref (E 0), .int 0])), (x, .inr (21, [.ref s0, .int 0])), (l0, .inr (5, [.int 1, .ref ra_11, .int 1])), (l1, .inr (5, [.int 1, .ref ra_16, .int 1]))] H := hP
  have hD : va_D A [(s0, .inr (20, [.ref l0, .ref l1, .ref l2, .ref l3, .ref l4, .ref l5, .ref l6, .ref l7, .ref l8, .int 10, .int 100, .int 50, .int 0, .int 0])), (l2, .inr (5, [.int 0, .ref (E 0), .int 0])), (x, .inr (21, [.ref s0, .int 0])), (l0, .inr (5, [.int 1, .ref ra_11, .int 1])), (l1, .inr (5, [.int 1, .ref ra_16, .int 1]))] := hD
  have hK : va_K (dC, dI) vwCl [] s := hK
  refine W.widen (k := 2) (n := 20) (Nat.le_of_ble_eq_true rfl) (Nat.le_of_ble_eq_true rfl) ?_
  have hPc := hP.sub (ws' := [(l2, .inr (5, [.int 0, .ref (E 0), .int 0]))]) [1] rfl
  have hDc := hD.sub (ws' := [(l2, .inr (5, [.int 0, .ref (E 0), .int 0]))]) [1] (by decide) rfl
  have hKc := hK.sub (tys' := []) [] rfl
  have hFc := va_free (wc := [(l2, .inr (5, [.int 0, .ref (E 0), .int 0]))]) hD hS hA [1] rfl
  refine va_callFi (va_runF (As := [.ref (E (100 + k_18))]) (rest := []) (hK.1 5 _ rfl).2 ⟨hx, hb, hml, hown, hts⟩ (c_al_add1c l dC dI E l2 k_18 H.size hf0_19) (va_cwF 1 hts gX15_addRoom_Jx4a65c_add_9ea2d_f53Jx4a65c rfl rfl rfl hE.1.2.2.2.1 (by decide +kernel) ⟨(Nat.le_of_ble_eq_true rfl), (Nat.le_of_ble_eq_true rfl)⟩) ⟨pre_blind, va_recv hKc hPc (ci := 5) (q0 := 0) rfl rfl, pre_call hPc hDc hKc hFc hE hZ hS⟩ rfl rfl hl.1 rfl (lv_room (Nat.le_of_ble_eq_true rfl)) dX15_addRoom_93 ⟨(Nat.le_of_ble_eq_true rfl), (Nat.le_of_ble_eq_true rfl)⟩) hS (fun q _ h => hFc q h) hFc (fun r u t H1 locs1 ht hvm hw hB hz1 hk1 hS => ?_)
  obtain ⟨ra_21, hB⟩ := hB
  have hw9 : r = 1 := hw
  rw [hw9]
  obtain ⟨hP, hD, hK⟩ := pst_join (wc := [(l2, .inr (5, [.int 0, .ref (E 0), .int 0]))]) (wr := [(s0, .inr (20, [.ref l0, .ref l1, .ref l2, .ref l3, .ref l4, .ref l5, .ref l6, .ref l7, .ref l8, .int 10, .int 100, .int 50, .int 0, .int 0])), (x, .inr (21, [.ref s0, .int 0])), (l0, .inr (5, [.int 1, .ref ra_11, .int 1])), (l1, .inr (5, [.int 1, .ref ra_16, .int 1]))]) (w1 := [(l2, .inr (5, [.int 1, .ref ra_21, .int 1]))]) (tr := []) (t1 := []) hP hD hK [1] [0, 2, 3, 4] [] rfl rfl rfl (by decide) (by decide) hk1 hFc ht hvm hB
  generalize H1 = H at hP hS ⊢
  have hP : va_P (dC, dI) vwCl [(s0, .inr (20, [.ref l0, .ref l1, .ref l2, .ref l3, .ref l4, .ref l5, .ref l6, .ref l7, .ref l8, .int 10, .int 100, .int 50, .int 0, .int 0])), (x, .inr (21, [.ref s0, .int 0])), (l0, .inr (5, [.int 1, .ref ra_11, .int 1])), (l1, .inr (5, [.int 1, .ref ra_16, .int 1])), (l2, .inr (5, [.int 1, .ref ra_21, .int 1]))] H := hP
  have hD : va_D A [(s0, .inr (20, [.ref l0, .ref l1, .ref l2, .ref l3, .ref l4, .ref l5, .ref l6, .ref l7, .ref l8, .int 10, .int 100, .int 50, .int 0, .int 0])), (x, .inr (21, [.ref s0, .int 0])), (l0, .inr (5, [.int 1, .ref ra_11, .int 1])), (l1, .inr (5, [.int 1, .ref ra_16, .int 1])), (l2, .inr (5, [.int 1, .ref ra_21, .int 1]))] := hD
  have hK : va_K (dC, dI) vwCl [] s := hK
  refine W.widen (k := 3) (n := 30) (Nat.le_of_ble_eq_true rfl) (Nat.le_of_ble_eq_true rfl) ?_
  refine lv_pop hx hb dX15_addRoom_98 rfl ?_
  refine lv_aload_n hx hb dX15_addRoom_99 rfl (lv_at hl 0 rfl) ?_
  refine va_get (D := (dC, dI)) (ci := 21) (v := .ref s0) (C := RX15) (T := TX15) (N := 2) hx hb hts (by decide +kernel) hown hK hP 1 rfl rfl 0 (by decide) (hts (.fieldLink RX15 10 "OrbitdockModel" "station" "LOrbitdockModel$Station;") (by decide +kernel)) (fun _ h9 => h9) rfl dX15_addRoom_100 ?_
  refine va_get (D := (dC, dI)) (ci := 20) (v := .ref l0) (C := RX14) (T := TX14) (N := 14) hx hb hts (by decide +kernel) hown hK hP 0 rfl rfl 0 (by decide) (hts (.fieldLink RX15 20 "OrbitdockModel$Station" "oxygen" "Ljava/util/List;") (by decide +kernel)) (fun _ h9 => h9) rfl dX15_addRoom_103 ?_
  have hPc := hP.sub (ws' := [(l0, .inr (5, [.int 1, .ref ra_11, .int 1]))]) [2] rfl
  have hDc := hD.sub (ws' := [(l0, .inr (5, [.int 1, .ref ra_11, .int 1]))]) [2] (by decide) rfl
  have hKc := hK.sub (tys' := []) [] rfl
  have hFc := va_free (wc := [(l0, .inr (5, [.int 1, .ref ra_11, .int 1]))]) hD hS hA [2] rfl
  refine va_callFi (va_runF (As := []) (rest := []) (hK.1 5 _ rfl).2 ⟨hx, hb, hml, hown, hts⟩ (c_al_size l dC dI E l0 ra_11 1 1 H.size) (va_cwF 0 hts gX15_addRoom_Jx4a65c_size_8abf5_f24Jx4a65c rfl rfl rfl hE.1.1 (by decide +kernel) ⟨(Nat.le_of_ble_eq_true rfl), (Nat.le_of_ble_eq_true rfl)⟩) ⟨pre_blind, va_recv hKc hPc (ci := 5) (q0 := 0) rfl rfl, pre_call hPc hDc hKc hFc hE hZ hS⟩ rfl rfl hl.1 rfl (lv_room (Nat.le_of_ble_eq_true rfl)) dX15_addRoom_106 ⟨(Nat.le_of_ble_eq_true rfl), (Nat.le_of_ble_eq_true rfl)⟩) hS (fun q _ h => hFc q h) hFc (fun r u t H1 locs1 ht hvm hw hB hz1 hk1 hS => ?_)
  have hw9 : r = 1 := hw
  rw [hw9]
  obtain ⟨hP, hD, hK⟩ := pst_join (wc := [(l0, .inr (5, [.int 1, .ref ra_11, .int 1]))]) (wr := [(s0, .inr (20, [.ref l0, .ref l1, .ref l2, .ref l3, .ref l4, .ref l5, .ref l6, .ref l7, .ref l8, .int 10, .int 100, .int 50, .int 0, .int 0])), (x, .inr (21, [.ref s0, .int 0])), (l1, .inr (5, [.int 1, .ref ra_16, .int 1])), (l2, .inr (5, [.int 1, .ref ra_21, .int 1]))]) (w1 := [(l0, .inr (5, [.int 1, .ref ra_11, .int 1]))]) (tr := []) (t1 := []) hP hD hK [2] [0, 1, 3, 4] [] rfl rfl rfl (by decide) (by decide) hk1 hFc ht hvm hB
  generalize H1 = H at hP hS ⊢
  have hP : va_P (dC, dI) vwCl [(s0, .inr (20, [.ref l0, .ref l1, .ref l2, .ref l3, .ref l4, .ref l5, .ref l6, .ref l7, .ref l8, .int 10, .int 100, .int 50, .int 0, .int 0])), (x, .inr (21, [.ref s0, .int 0])), (l1, .inr (5, [.int 1, .ref ra_16, .int 1])), (l2, .inr (5, [.int 1, .ref ra_21, .int 1])), (l0, .inr (5, [.int 1, .ref ra_11, .int 1]))] H := hP
  have hD : va_D A [(s0, .inr (20, [.ref l0, .ref l1, .ref l2, .ref l3, .ref l4, .ref l5, .ref l6, .ref l7, .ref l8, .int 10, .int 100, .int 50, .int 0, .int 0])), (x, .inr (21, [.ref s0, .int 0])), (l1, .inr (5, [.int 1, .ref ra_16, .int 1])), (l2, .inr (5, [.int 1, .ref ra_21, .int 1])), (l0, .inr (5, [.int 1, .ref ra_11, .int 1]))] := hD
  have hK : va_K (dC, dI) vwCl [] s := hK
  refine W.widen (k := 3) (n := 30) (Nat.le_of_ble_eq_true rfl) (Nat.le_of_ble_eq_true rfl) ?_
  refine lv_iconst (v := 1) hx hb dX15_addRoom_111 (by decide) ?_
  refine lv_isub hx hb dX15_addRoom_112 ?_
  refine lv_topi (fun z_24 ez_24 => ?_)
  obtain rfl : z_24 = 0 := ez_24.trans (by decide)
  have hP9 := hP.sub (ws' := [(x, .inr (21, [.ref s0, .int 0]))]) [1] rfl
  have hD9 := hD.sub (ws' := [(x, .inr (21, [.ref s0, .int 0]))]) [1] (by decide) rfl
  have hK9 := hK.sub (tys' := []) [] rfl
  refine W.widen (k := 3) (n := 30) (Nat.le_of_ble_eq_true rfl) (Nat.le_of_ble_eq_true rfl) ?_
  exact W.iret (v := 0) hx hb hr (fun t ht hW => ⟨⟨0, (), rfl, rfl, pst_of hP9 hD9 hK9 ht hW⟩, hS.F ht⟩) hS.2.2 dX15_addRoom_113

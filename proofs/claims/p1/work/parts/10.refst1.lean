set_option maxHeartbeats 4000000 in
set_option maxRecDepth 100000 in
theorem c_rs_init (l : Launch) (dC : Nat → ClassId) (dI : Nat → Nat → Nat) (E : Nat → Nat) (h : Nat) (sz : Nat) : Met l yX14_init wsX14_init ({ frames := 4, cells := 9, slots := 27, locals := 72 }) (va_Pc [.ref h] (pre dC dI E [(h, .inr (20, [.null, .null, .null, .null, .null, .null, .null, .null, .null, .int 0, .int 0, .int 0, .int 0, .int 0]))] [] sz)) (va_Qv (fun _ : Unit => True) (fun _ t => ∃ l0 : Nat, ∃ l1 : Nat, ∃ l2 : Nat, ∃ l3 : Nat, ∃ l4 : Nat, ∃ l5 : Nat, ∃ l6 : Nat, ∃ l7 : Nat, ∃ l8 : Nat, pst dC dI (va_A [(h, .inr (20, [.null, .null, .null, .null, .null, .null, .null, .null, .null, .int 0, .int 0, .int 0, .int 0, .int 0]))] sz) [(h, .inr (20, [.ref l0, .ref l1, .ref l2, .ref l3, .ref l4, .ref l5, .ref l6, .ref l7, .ref l8, .int 10, .int 100, .int 50, .int 0, .int 0])), (l0, .inr (5, [.int 0, .ref (E 0), .int 0])), (l1, .inr (5, [.int 0, .ref (E 0), .int 0])), (l2, .inr (5, [.int 0, .ref (E 0), .int 0])), (l3, .inr (5, [.int 0, .ref (E 0), .int 0])), (l4, .inr (5, [.int 0, .ref (E 0), .int 0])), (l5, .inr (5, [.int 0, .ref (E 0), .int 0])), (l6, .inr (5, [.int 0, .ref (E 0), .int 0])), (l7, .inr (5, [.int 0, .ref (E 0), .int 0])), (l8, .inr (5, [.int 0, .ref (E 0), .int 0]))] [] t) (va_A [(h, .inr (20, [.null, .null, .null, .null, .null, .null, .null, .null, .null, .int 0, .int 0, .int 0, .int 0, .int 0]))] sz)) 9 27 (va_A [(h, .inr (20, [.null, .null, .null, .null, .null, .null, .null, .null, .null, .int 0, .int 0, .int 0, .int 0, .int 0]))] sz) := by
  refine Met.ofW (cc := cX14_init) (maxL := 1) (ret := none) (by decide) rfl ?_
  intro p e s m args below meth c s₁ B hml hv
  obtain ⟨rfl, hsz, hP, hK, hD0, hE, hZ0⟩ := hv
  have hx := B.exec
  have hb := B.bytes
  have hr := B.returns
  have hts := atoms_spec (ws := wsX14_init) B.pre
  have hown : s.vm.findClass RX14 = some m.cls := findClass_of_methodNamed B.named
  have hlocks := B.notSynchronized
  have hin : meth.name = "<init>" := (name_of_methodNamed B.named B.method).1
  subst hsz
  have hD := hD0.self (sz := s.heap.size)
  generalize hAe : va_A [(h, .inr (20, [.null, .null, .null, .null, .null, .null, .null, .null, .null, .int 0, .int 0, .int 0, .int 0, .int 0]))] s.heap.size = A at hD hZ0 ⊢
  have hZ := hZ0
  have hA : ∀ q : Nat, s.heap.size ≤ q → A q := fun q h => by rw [← hAe]; exact Or.inr h
  have hS : va_S A s.heap s.heap [] := va_S.rf
  have hP : va_P (dC, dI) vwCl [(h, .inr (20, [.null, .null, .null, .null, .null, .null, .null, .null, .null, .int 0, .int 0, .int 0, .int 0, .int 0]))] s.heap := hP
  have hl := lv_entry ([.ref h]) (n := 1) (Nat.le_of_ble_eq_true rfl)
  rw [lg_entry_eq]
  generalize (lg_sl ([.ref h]) ++ List.replicate (1 - (lg_sl ([.ref h])).length) Slot.unset).toArray = ls at hl ⊢
  have hl : lv_has ls 1 [(0, .ref h)] := hl
  refine lv_aload_n hx hb dX14_init_0 rfl (lv_at hl 0 rfl) ?_
  refine W.objInit hx hb hown (hts (.methodLink RX14 3 objectInit) (by decide +kernel)) (hts (.instanceMethod objectInit) (by decide +kernel)) (hts (.code objectInit ⟨#[0xb1]⟩ 1 none) (by decide +kernel)) rfl (by rw [hml]; exact hl.1) rfl dX14_init_1 (Nat.le_of_ble_eq_true rfl) (Nat.le_of_ble_eq_true rfl) ?_
  refine W.eq (g2 := F0 m 4 ls []) rfl ?_
  refine lv_aload_n hx hb dX14_init_4 rfl (lv_at hl 0 rfl) ?_
  refine va_new (ci := 5) (fs := [.int 0, .null, .int 0]) (C := RJx4a65c) (T := TJx4a65c) (N := 3) hx hb hts (by decide +kernel) tyJx4a65c tyJx4a65c_ok hown (hts (.classLink RX14 9 RJx4a65c) (by decide +kernel)) (hts (.instantiable RJx4a65c 3) (by decide +kernel)) (hts (.initialized RJx4a65c) (by decide +kernel)) hK hP hD hS hA rfl (fun j hj => by rcases (show j = 0 ∨ j = 1 ∨ j = 2 by omega) with rfl | rfl | rfl <;> rfl) (Nat.le_of_ble_eq_true rfl) (Nat.le_of_ble_eq_true rfl) dX14_init_5 (fun q_1 H hP hD hS => ?_)
  have hP : va_P (dC, dI) vwCl [(h, .inr (20, [.null, .null, .null, .null, .null, .null, .null, .null, .null, .int 0, .int 0, .int 0, .int 0, .int 0])), (q_1, .inr (5, [.int 0, .null, .int 0]))] H := hP
  have hD : va_D A [(h, .inr (20, [.null, .null, .null, .null, .null, .null, .null, .null, .null, .int 0, .int 0, .int 0, .int 0, .int 0])), (q_1, .inr (5, [.int 0, .null, .int 0]))] := hD
  refine W.widen (k := 1) (n := 3) (Nat.le_of_ble_eq_true rfl) (Nat.le_of_ble_eq_true rfl) ?_
  refine lv_dup hx hb dX14_init_8 rfl ?_
  have hPc := hP.sub (ws' := [(q_1, .inr (5, [.int 0, .null, .int 0]))]) [1] rfl
  have hDc := hD.sub (ws' := [(q_1, .inr (5, [.int 0, .null, .int 0]))]) [1] (by decide) rfl
  have hKc := hK.sub (tys' := []) [] rfl
  have hFc := va_free (wc := [(q_1, .inr (5, [.int 0, .null, .int 0]))]) hD hS hA [1] rfl
  refine va_callv (va_runI (As := []) (rest := [.ref q_1, .ref h]) ⟨hx, hb, hml, hown, hts⟩ (c_al_init l dC dI E q_1 H.size) (cwI 0 hts gX14_init_Jx4a65c_init_da8c8 rfl rfl rfl (hts (.initialized RJx4a65c) (by decide +kernel)) (hts (.methodLink RX14 11 yJx4a65c_init_da8c8) (by decide +kernel)) (hts (.instanceMethod yJx4a65c_init_da8c8) (by decide +kernel)) rfl (by decide +kernel) ⟨(Nat.le_of_ble_eq_true rfl), (Nat.le_of_ble_eq_true rfl)⟩) ⟨pre_blind, pre_call hPc hDc hKc hFc hE hZ hS⟩ rfl rfl hl.1 rfl (lv_room (Nat.le_of_ble_eq_true rfl)) dX14_init_9 ⟨(Nat.le_of_ble_eq_true rfl), (Nat.le_of_ble_eq_true rfl)⟩) hS (fun q _ h => hFc q h) hFc (fun u t H1 locs1 ht hvm hw hB hz1 hk1 hS => ?_)
  obtain ⟨hP, hD, hK⟩ := pst_join (wc := [(q_1, .inr (5, [.int 0, .null, .int 0]))]) (wr := [(h, .inr (20, [.null, .null, .null, .null, .null, .null, .null, .null, .null, .int 0, .int 0, .int 0, .int 0, .int 0]))]) (w1 := [(q_1, .inr (5, [.int 0, .ref (E 0), .int 0]))]) (tr := []) (t1 := []) hP hD hK [1] [0] [] rfl rfl rfl (by decide) (by decide) hk1 hFc ht hvm hB
  generalize H1 = H at hP hS ⊢
  have hP : va_P (dC, dI) vwCl [(h, .inr (20, [.null, .null, .null, .null, .null, .null, .null, .null, .null, .int 0, .int 0, .int 0, .int 0, .int 0])), (q_1, .inr (5, [.int 0, .ref (E 0), .int 0]))] H := hP
  have hD : va_D A [(h, .inr (20, [.null, .null, .null, .null, .null, .null, .null, .null, .null, .int 0, .int 0, .int 0, .int 0, .int 0])), (q_1, .inr (5, [.int 0, .ref (E 0), .int 0]))] := hD
  have hK : va_K (dC, dI) vwCl [] s := hK
  refine W.widen (k := 1) (n := 3) (Nat.le_of_ble_eq_true rfl) (Nat.le_of_ble_eq_true rfl) ?_
  refine va_putF (D := (dC, dI)) (ci := 20) (v := .ref q_1) (ty := .object "java/util/List") (C := RX14) (T := TX14) (N := 14) hx hb hts (by decide +kernel) tyX14 tyX14_ok nmX14 hown hK hP hD hS 0 rfl rfl 0 (by decide) (hts (.fieldLink RX14 12 "OrbitdockModel$Station" "oxygen" "Ljava/util/List;") (by decide +kernel)) (fun _ h9 => h9) rfl hin rfl (by decide +kernel) rfl rfl (Nat.le_of_ble_eq_true rfl) dX14_init_12 (fun H locs hP hD hS => ?_)
  have hP : va_P (dC, dI) vwCl [(h, .inr (20, [.ref q_1, .null, .null, .null, .null, .null, .null, .null, .null, .int 0, .int 0, .int 0, .int 0, .int 0])), (q_1, .inr (5, [.int 0, .ref (E 0), .int 0]))] H := hP
  have hD : va_D A [(h, .inr (20, [.ref q_1, .null, .null, .null, .null, .null, .null, .null, .null, .int 0, .int 0, .int 0, .int 0, .int 0])), (q_1, .inr (5, [.int 0, .ref (E 0), .int 0]))] := hD
  refine lv_aload_n hx hb dX14_init_15 rfl (lv_at hl 0 rfl) ?_
  refine va_new (ci := 5) (fs := [.int 0, .null, .int 0]) (C := RJx4a65c) (T := TJx4a65c) (N := 3) hx hb hts (by decide +kernel) tyJx4a65c tyJx4a65c_ok hown (hts (.classLink RX14 9 RJx4a65c) (by decide +kernel)) (hts (.instantiable RJx4a65c 3) (by decide +kernel)) (hts (.initialized RJx4a65c) (by decide +kernel)) hK hP hD hS hA rfl (fun j hj => by rcases (show j = 0 ∨ j = 1 ∨ j = 2 by omega) with rfl | rfl | rfl <;> rfl) (Nat.le_of_ble_eq_true rfl) (Nat.le_of_ble_eq_true rfl) dX14_init_16 (fun q_3 H hP hD hS => ?_)
  have hP : va_P (dC, dI) vwCl [(h, .inr (20, [.ref q_1, .null, .null, .null, .null, .null, .null, .null, .null, .int 0, .int 0, .int 0, .int 0, .int 0])), (q_1, .inr (5, [.int 0, .ref (E 0), .int 0])), (q_3, .inr (5, [.int 0, .null, .int 0]))] H := hP
  have hD : va_D A [(h, .inr (20, [.ref q_1, .null, .null, .null, .null, .null, .null, .null, .null, .int 0, .int 0, .int 0, .int 0, .int 0])), (q_1, .inr (5, [.int 0, .ref (E 0), .int 0])), (q_3, .inr (5, [.int 0, .null, .int 0]))] := hD
  refine W.widen (k := 2) (n := 6) (Nat.le_of_ble_eq_true rfl) (Nat.le_of_ble_eq_true rfl) ?_
  refine lv_dup hx hb dX14_init_19 rfl ?_
  have hPc := hP.sub (ws' := [(q_3, .inr (5, [.int 0, .null, .int 0]))]) [2] rfl
  have hDc := hD.sub (ws' := [(q_3, .inr (5, [.int 0, .null, .int 0]))]) [2] (by decide) rfl
  have hKc := hK.sub (tys' := []) [] rfl
  have hFc := va_free (wc := [(q_3, .inr (5, [.int 0, .null, .int 0]))]) hD hS hA [2] rfl
  refine va_callv (va_runI (As := []) (rest := [.ref q_3, .ref h]) ⟨hx, hb, hml, hown, hts⟩ (c_al_init l dC dI E q_3 H.size) (cwI 0 hts gX14_init_Jx4a65c_init_da8c8 rfl rfl rfl (hts (.initialized RJx4a65c) (by decide +kernel)) (hts (.methodLink RX14 11 yJx4a65c_init_da8c8) (by decide +kernel)) (hts (.instanceMethod yJx4a65c_init_da8c8) (by decide +kernel)) rfl (by decide +kernel) ⟨(Nat.le_of_ble_eq_true rfl), (Nat.le_of_ble_eq_true rfl)⟩) ⟨pre_blind, pre_call hPc hDc hKc hFc hE hZ hS⟩ rfl rfl hl.1 rfl (lv_room (Nat.le_of_ble_eq_true rfl)) dX14_init_20 ⟨(Nat.le_of_ble_eq_true rfl), (Nat.le_of_ble_eq_true rfl)⟩) hS (fun q _ h => hFc q h) hFc (fun u t H1 locs1 ht hvm hw hB hz1 hk1 hS => ?_)
  obtain ⟨hP, hD, hK⟩ := pst_join (wc := [(q_3, .inr (5, [.int 0, .null, .int 0]))]) (wr := [(h, .inr (20, [.ref q_1, .null, .null, .null, .null, .null, .null, .null, .null, .int 0, .int 0, .int 0, .int 0, .int 0])), (q_1, .inr (5, [.int 0, .ref (E 0), .int 0]))]) (w1 := [(q_3, .inr (5, [.int 0, .ref (E 0), .int 0]))]) (tr := []) (t1 := []) hP hD hK [2] [0, 1] [] rfl rfl rfl (by decide) (by decide) hk1 hFc ht hvm hB
  generalize H1 = H at hP hS ⊢
  have hP : va_P (dC, dI) vwCl [(h, .inr (20, [.ref q_1, .null, .null, .null, .null, .null, .null, .null, .null, .int 0, .int 0, .int 0, .int 0, .int 0])), (q_1, .inr (5, [.int 0, .ref (E 0), .int 0])), (q_3, .inr (5, [.int 0, .ref (E 0), .int 0]))] H := hP
  have hD : va_D A [(h, .inr (20, [.ref q_1, .null, .null, .null, .null, .null, .null, .null, .null, .int 0, .int 0, .int 0, .int 0, .int 0])), (q_1, .inr (5, [.int 0, .ref (E 0), .int 0])), (q_3, .inr (5, [.int 0, .ref (E 0), .int 0]))] := hD
  have hK : va_K (dC, dI) vwCl [] s := hK
  refine W.widen (k := 2) (n := 6) (Nat.le_of_ble_eq_true rfl) (Nat.le_of_ble_eq_true rfl) ?_
  refine va_putF (D := (dC, dI)) (ci := 20) (v := .ref q_3) (ty := .object "java/util/List") (C := RX14) (T := TX14) (N := 14) hx hb hts (by decide +kernel) tyX14 tyX14_ok nmX14 hown hK hP hD hS 0 rfl rfl 1 (by decide) (hts (.fieldLink RX14 18 "OrbitdockModel$Station" "carbon" "Ljava/util/List;") (by decide +kernel)) (fun _ h9 => h9) rfl hin rfl (by decide +kernel) rfl rfl (Nat.le_of_ble_eq_true rfl) dX14_init_23 (fun H locs hP hD hS => ?_)
  have hP : va_P (dC, dI) vwCl [(h, .inr (20, [.ref q_1, .ref q_3, .null, .null, .null, .null, .null, .null, .null, .int 0, .int 0, .int 0, .int 0, .int 0])), (q_1, .inr (5, [.int 0, .ref (E 0), .int 0])), (q_3, .inr (5, [.int 0, .ref (E 0), .int 0]))] H := hP
  have hD : va_D A [(h, .inr (20, [.ref q_1, .ref q_3, .null, .null, .null, .null, .null, .null, .null, .int 0, .int 0, .int 0, .int 0, .int 0])), (q_1, .inr (5, [.int 0, .ref (E 0), .int 0])), (q_3, .inr (5, [.int 0, .ref (E 0), .int 0]))] := hD
  refine lv_aload_n hx hb dX14_init_26 rfl (lv_at hl 0 rfl) ?_
  refine va_new (ci := 5) (fs := [.int 0, .null, .int 0]) (C := RJx4a65c) (T := TJx4a65c) (N := 3) hx hb hts (by decide +kernel) tyJx4a65c tyJx4a65c_ok hown (hts (.classLink RX14 9 RJx4a65c) (by decide +kernel)) (hts (.instantiable RJx4a65c 3) (by decide +kernel)) (hts (.initialized RJx4a65c) (by decide +kernel)) hK hP hD hS hA rfl (fun j hj => by rcases (show j = 0 ∨ j = 1 ∨ j = 2 by omega) with rfl | rfl | rfl <;> rfl) (Nat.le_of_ble_eq_true rfl) (Nat.le_of_ble_eq_true rfl) dX14_init_27 (fun q_5 H hP hD hS => ?_)
  have hP : va_P (dC, dI) vwCl [(h, .inr (20, [.ref q_1, .ref q_3, .null, .null, .null, .null, .null, .null, .null, .int 0, .int 0, .int 0, .int 0, .int 0])), (q_1, .inr (5, [.int 0, .ref (E 0), .int 0])), (q_3, .inr (5, [.int 0, .ref (E 0), .int 0])), (q_5, .inr (5, [.int 0, .null, .int 0]))] H := hP
  have hD : va_D A [(h, .inr (20, [.ref q_1, .ref q_3, .null, .null, .null, .null, .null, .null, .null, .int 0, .int 0, .int 0, .int 0, .int 0])), (q_1, .inr (5, [.int 0, .ref (E 0), .int 0])), (q_3, .inr (5, [.int 0, .ref (E 0), .int 0])), (q_5, .inr (5, [.int 0, .null, .int 0]))] := hD
  refine W.widen (k := 3) (n := 9) (Nat.le_of_ble_eq_true rfl) (Nat.le_of_ble_eq_true rfl) ?_
  refine lv_dup hx hb dX14_init_30 rfl ?_
  have hPc := hP.sub (ws' := [(q_5, .inr (5, [.int 0, .null, .int 0]))]) [3] rfl
  have hDc := hD.sub (ws' := [(q_5, .inr (5, [.int 0, .null, .int 0]))]) [3] (by decide) rfl
  have hKc := hK.sub (tys' := []) [] rfl
  have hFc := va_free (wc := [(q_5, .inr (5, [.int 0, .null, .int 0]))]) hD hS hA [3] rfl
  refine va_callv (va_runI (As := []) (rest := [.ref q_5, .ref h]) ⟨hx, hb, hml, hown, hts⟩ (c_al_init l dC dI E q_5 H.size) (cwI 0 hts gX14_init_Jx4a65c_init_da8c8 rfl rfl rfl (hts (.initialized RJx4a65c) (by decide +kernel)) (hts (.methodLink RX14 11 yJx4a65c_init_da8c8) (by decide +kernel)) (hts (.instanceMethod yJx4a65c_init_da8c8) (by decide +kernel)) rfl (by decide +kernel) ⟨(Nat.le_of_ble_eq_true rfl), (Nat.le_of_ble_eq_true rfl)⟩) ⟨pre_blind, pre_call hPc hDc hKc hFc hE hZ hS⟩ rfl rfl hl.1 rfl (lv_room (Nat.le_of_ble_eq_true rfl)) dX14_init_31 ⟨(Nat.le_of_ble_eq_true rfl), (Nat.le_of_ble_eq_true rfl)⟩) hS (fun q _ h => hFc q h) hFc (fun u t H1 locs1 ht hvm hw hB hz1 hk1 hS => ?_)
  obtain ⟨hP, hD, hK⟩ := pst_join (wc := [(q_5, .inr (5, [.int 0, .null, .int 0]))]) (wr := [(h, .inr (20, [.ref q_1, .ref q_3, .null, .null, .null, .null, .null, .null, .null, .int 0, .int 0, .int 0, .int 0, .int 0])), (q_1, .inr (5, [.int 0, .ref (E 0), .int 0])), (q_3, .inr (5, [.int 0, .ref (E 0), .int 0]))]) (w1 := [(q_5, .inr (5, [.int 0, .ref (E 0), .int 0]))]) (tr := []) (t1 := []) hP hD hK [3] [0, 1, 2] [] rfl rfl rfl (by decide) (by decide) hk1 hFc ht hvm hB
  generalize H1 = H at hP hS ⊢
  have hP : va_P (dC, dI) vwCl [(h, .inr (20, [.ref q_1, .ref q_3, .null, .null, .null, .null, .null, .null, .null, .int 0, .int 0, .int 0, .int 0, .int 0])), (q_1, .inr (5, [.int 0, .ref (E 0), .int 0])), (q_3, .inr (5, [.int 0, .ref (E 0), .int 0])), (q_5, .inr (5, [.int 0, .ref (E 0), .int 0]))] H := hP
  have hD : va_D A [(h, .inr (20, [.ref q_1, .ref q_3, .null, .null, .null, .null, .null, .null, .null, .int 0, .int 0, .int 0, .int 0, .int 0])), (q_1, .inr (5, [.int 0, .ref (E 0), .int 0])), (q_3, .inr (5, [.int 0, .ref (E 0), .int 0])), (q_5, .inr (5, [.int 0, .ref (E 0), .int 0]))] := hD
  have hK : va_K (dC, dI) vwCl [] s := hK
  refine W.widen (k := 3) (n := 9) (Nat.le_of_ble_eq_true rfl) (Nat.le_of_ble_eq_true rfl) ?_
  refine va_putF (D := (dC, dI)) (ci := 20) (v := .ref q_5) (ty := .object "java/util/List") (C := RX14) (T := TX14) (N := 14) hx hb hts (by decide +kernel) tyX14 tyX14_ok nmX14 hown hK hP hD hS 0 rfl rfl 2 (by decide) (hts (.fieldLink RX14 21 "OrbitdockModel$Station" "leaks" "Ljava/util/List;") (by decide +kernel)) (fun _ h9 => h9) rfl hin rfl (by decide +kernel) rfl rfl (Nat.le_of_ble_eq_true rfl) dX14_init_34 (fun H locs hP hD hS => ?_)
  have hP : va_P (dC, dI) vwCl [(h, .inr (20, [.ref q_1, .ref q_3, .ref q_5, .null, .null, .null, .null, .null, .null, .int 0, .int 0, .int 0, .int 0, .int 0])), (q_1, .inr (5, [.int 0, .ref (E 0), .int 0])), (q_3, .inr (5, [.int 0, .ref (E 0), .int 0])), (q_5, .inr (5, [.int 0, .ref (E 0), .int 0]))] H := hP
  have hD : va_D A [(h, .inr (20, [.ref q_1, .ref q_3, .ref q_5, .null, .null, .null, .null, .null, .null, .int 0, .int 0, .int 0, .int 0, .int 0])), (q_1, .inr (5, [.int 0, .ref (E 0), .int 0])), (q_3, .inr (5, [.int 0, .ref (E 0), .int 0])), (q_5, .inr (5, [.int 0, .ref (E 0), .int 0]))] := hD
  refine lv_aload_n hx hb dX14_init_37 rfl (lv_at hl 0 rfl) ?_
  refine va_new (ci := 5) (fs := [.int 0, .null, .int 0]) (C := RJx4a65c) (T := TJx4a65c) (N := 3) hx hb hts (by decide +kernel) tyJx4a65c tyJx4a65c_ok hown (hts (.classLink RX14 9 RJx4a65c) (by decide +kernel)) (hts (.instantiable RJx4a65c 3) (by decide +kernel)) (hts (.initialized RJx4a65c) (by decide +kernel)) hK hP hD hS hA rfl (fun j hj => by rcases (show j = 0 ∨ j = 1 ∨ j = 2 by omega) with rfl | rfl | rfl <;> rfl) (Nat.le_of_ble_eq_true rfl) (Nat.le_of_ble_eq_true rfl) dX14_init_38 (fun q_7 H hP hD hS => ?_)
  have hP : va_P (dC, dI) vwCl [(h, .inr (20, [.ref q_1, .ref q_3, .ref q_5, .null, .null, .null, .null, .null, .null, .int 0, .int 0, .int 0, .int 0, .int 0])), (q_1, .inr (5, [.int 0, .ref (E 0), .int 0])), (q_3, .inr (5, [.int 0, .ref (E 0), .int 0])), (q_5, .inr (5, [.int 0, .ref (E 0), .int 0])), (q_7, .inr (5, [.int 0, .null, .int 0]))] H := hP
  have hD : va_D A [(h, .inr (20, [.ref q_1, .ref q_3, .ref q_5, .null, .null, .null, .null, .null, .null, .int 0, .int 0, .int 0, .int 0, .int 0])), (q_1, .inr (5, [.int 0, .ref (E 0), .int 0])), (q_3, .inr (5, [.int 0, .ref (E 0), .int 0])), (q_5, .inr (5, [.int 0, .ref (E 0), .int 0])), (q_7, .inr (5, [.int 0, .null, .int 0]))] := hD
  refine W.widen (k := 4) (n := 12) (Nat.le_of_ble_eq_true rfl) (Nat.le_of_ble_eq_true rfl) ?_
  refine lv_dup hx hb dX14_init_41 rfl ?_
  have hPc := hP.sub (ws' := [(q_7, .inr (5, [.int 0, .null, .int 0]))]) [4] rfl
  have hDc := hD.sub (ws' := [(q_7, .inr (5, [.int 0, .null, .int 0]))]) [4] (by decide) rfl
  have hKc := hK.sub (tys' := []) [] rfl
  have hFc := va_free (wc := [(q_7, .inr (5, [.int 0, .null, .int 0]))]) hD hS hA [4] rfl
  refine va_callv (va_runI (As := []) (rest := [.ref q_7, .ref h]) ⟨hx, hb, hml, hown, hts⟩ (c_al_init l dC dI E q_7 H.size) (cwI 0 hts gX14_init_Jx4a65c_init_da8c8 rfl rfl rfl (hts (.initialized RJx4a65c) (by decide +kernel)) (hts (.methodLink RX14 11 yJx4a65c_init_da8c8) (by decide +kernel)) (hts (.instanceMethod yJx4a65c_init_da8c8) (by decide +kernel)) rfl (by decide +kernel) ⟨(Nat.le_of_ble_eq_true rfl), (Nat.le_of_ble_eq_true rfl)⟩) ⟨pre_blind, pre_call hPc hDc hKc hFc hE hZ hS⟩ rfl rfl hl.1 rfl (lv_room (Nat.le_of_ble_eq_true rfl)) dX14_init_42 ⟨(Nat.le_of_ble_eq_true rfl), (Nat.le_of_ble_eq_true rfl)⟩) hS (fun q _ h => hFc q h) hFc (fun u t H1 locs1 ht hvm hw hB hz1 hk1 hS => ?_)
  obtain ⟨hP, hD, hK⟩ := pst_join (wc := [(q_7, .inr (5, [.int 0, .null, .int 0]))]) (wr := [(h, .inr (20, [.ref q_1, .ref q_3, .ref q_5, .null, .null, .null, .null, .null, .null, .int 0, .int 0, .int 0, .int 0, .int 0])), (q_1, .inr (5, [.int 0, .ref (E 0), .int 0])), (q_3, .inr (5, [.int 0, .ref (E 0), .int 0])), (q_5, .inr (5, [.int 0, .ref (E 0), .int 0]))]) (w1 := [(q_7, .inr (5, [.int 0, .ref (E 0), .int 0]))]) (tr := []) (t1 := []) hP hD hK [4] [0, 1, 2, 3] [] rfl rfl rfl (by decide) (by decide) hk1 hFc ht hvm hB
  generalize H1 = H at hP hS ⊢
  have hP : va_P (dC, dI) vwCl [(h, .inr (20, [.ref q_1, .ref q_3, .ref q_5, .null, .null, .null, .null, .null, .null, .int 0, .int 0, .int 0, .int 0, .int 0])), (q_1, .inr (5, [.int 0, .ref (E 0), .int 0])), (q_3, .inr (5, [.int 0, .ref (E 0), .int 0])), (q_5, .inr (5, [.int 0, .ref (E 0), .int 0])), (q_7, .inr (5, [.int 0, .ref (E 0), .int 0]))] H := hP
  have hD : va_D A [(h, .inr (20, [.ref q_1, .ref q_3, .ref q_5, .null, .null, .null, .null, .null, .null, .int 0, .int 0, .int 0, .int 0, .int 0])), (q_1, .inr (5, [.int 0, .ref (E 0), .int 0])), (q_3, .inr (5, [.int 0, .ref (E 0), .int 0])), (q_5, .inr (5, [.int 0, .ref (E 0), .int 0])), (q_7, .inr (5, [.int 0, .ref (E 0), .int 0]))] := hD
  have hK : va_K (dC, dI) vwCl [] s := hK
  refine W.widen (k := 4) (n := 12) (Nat.le_of_ble_eq_true rfl) (Nat.le_of_ble_eq_true rfl) ?_
  refine va_putF (D := (dC, dI)) (ci := 20) (v := .ref q_7) (ty := .object "java/util/List") (C := RX14) (T := TX14) (N := 14) hx hb hts (by decide +kernel) tyX14 tyX14_ok nmX14 hown hK hP hD hS 0 rfl rfl 3 (by decide) (hts (.fieldLink RX14 24 "OrbitdockModel$Station" "hatches" "Ljava/util/List;") (by decide +kernel)) (fun _ h9 => h9) rfl hin rfl (by decide +kernel) rfl rfl (Nat.le_of_ble_eq_true rfl) dX14_init_45 (fun H locs hP hD hS => ?_)
  have hP : va_P (dC, dI) vwCl [(h, .inr (20, [.ref q_1, .ref q_3, .ref q_5, .ref q_7, .null, .null, .null, .null, .null, .int 0, .int 0, .int 0, .int 0, .int 0])), (q_1, .inr (5, [.int 0, .ref (E 0), .int 0])), (q_3, .inr (5, [.int 0, .ref (E 0), .int 0])), (q_5, .inr (5, [.int 0, .ref (E 0), .int 0])), (q_7, .inr (5, [.int 0, .ref (E 0), .int 0]))] H := hP
  have hD : va_D A [(h, .inr (20, [.ref q_1, .ref q_3, .ref q_5, .ref q_7, .null, .null, .null, .null, .null, .int 0, .int 0, .int 0, .int 0, .int 0])), (q_1, .inr (5, [.int 0, .ref (E 0), .int 0])), (q_3, .inr (5, [.int 0, .ref (E 0), .int 0])), (q_5, .inr (5, [.int 0, .ref (E 0), .int 0])), (q_7, .inr (5, [.int 0, .ref (E 0), .int 0]))] := hD
  refine lv_aload_n hx hb dX14_init_48 rfl (lv_at hl 0 rfl) ?_
  refine va_new (ci := 5) (fs := [.int 0, .null, .int 0]) (C := RJx4a65c) (T := TJx4a65c) (N := 3) hx hb hts (by decide +kernel) tyJx4a65c tyJx4a65c_ok hown (hts (.classLink RX14 9 RJx4a65c) (by decide +kernel)) (hts (.instantiable RJx4a65c 3) (by decide +kernel)) (hts (.initialized RJx4a65c) (by decide +kernel)) hK hP hD hS hA rfl (fun j hj => by rcases (show j = 0 ∨ j = 1 ∨ j = 2 by omega) with rfl | rfl | rfl <;> rfl) (Nat.le_of_ble_eq_true rfl) (Nat.le_of_ble_eq_true rfl) dX14_init_49 (fun q_9 H hP hD hS => ?_)
  have hP : va_P (dC, dI) vwCl [(h, .inr (20, [.ref q_1, .ref q_3, .ref q_5, .ref q_7, .null, .null, .null, .null, .null, .int 0, .int 0, .int 0, .int 0, .int 0])), (q_1, .inr (5, [.int 0, .ref (E 0), .int 0])), (q_3, .inr (5, [.int 0, .ref (E 0), .int 0])), (q_5, .inr (5, [.int 0, .ref (E 0), .int 0])), (q_7, .inr (5, [.int 0, .ref (E 0), .int 0])), (q_9, .inr (5, [.int 0, .null, .int 0]))] H := hP
  have hD : va_D A [(h, .inr (20, [.ref q_1, .ref q_3, .ref q_5, .ref q_7, .null, .null, .null, .null, .null, .int 0, .int 0, .int 0, .int 0, .int 0])), (q_1, .inr (5, [.int 0, .ref (E 0), .int 0])), (q_3, .inr (5, [.int 0, .ref (E 0), .int 0])), (q_5, .inr (5, [.int 0, .ref (E 0), .int 0])), (q_7, .inr (5, [.int 0, .ref (E 0), .int 0])), (q_9, .inr (5, [.int 0, .null, .int 0]))] := hD
  refine W.widen (k := 5) (n := 15) (Nat.le_of_ble_eq_true rfl) (Nat.le_of_ble_eq_true rfl) ?_
  refine lv_dup hx hb dX14_init_52 rfl ?_
  have hPc := hP.sub (ws' := [(q_9, .inr (5, [.int 0, .null, .int 0]))]) [5] rfl
  have hDc := hD.sub (ws' := [(q_9, .inr (5, [.int 0, .null, .int 0]))]) [5] (by decide) rfl
  have hKc := hK.sub (tys' := []) [] rfl
  have hFc := va_free (wc := [(q_9, .inr (5, [.int 0, .null, .int 0]))]) hD hS hA [5] rfl
  refine va_callv (va_runI (As := []) (rest := [.ref q_9, .ref h]) ⟨hx, hb, hml, hown, hts⟩ (c_al_init l dC dI E q_9 H.size) (cwI 0 hts gX14_init_Jx4a65c_init_da8c8 rfl rfl rfl (hts (.initialized RJx4a65c) (by decide +kernel)) (hts (.methodLink RX14 11 yJx4a65c_init_da8c8) (by decide +kernel)) (hts (.instanceMethod yJx4a65c_init_da8c8) (by decide +kernel)) rfl (by decide +kernel) ⟨(Nat.le_of_ble_eq_true rfl), (Nat.le_of_ble_eq_true rfl)⟩) ⟨pre_blind, pre_call hPc hDc hKc hFc hE hZ hS⟩ rfl rfl hl.1 rfl (lv_room (Nat.le_of_ble_eq_true rfl)) dX14_init_53 ⟨(Nat.le_of_ble_eq_true rfl), (Nat.le_of_ble_eq_true rfl)⟩) hS (fun q _ h => hFc q h) hFc (fun u t H1 locs1 ht hvm hw hB hz1 hk1 hS => ?_)
  obtain ⟨hP, hD, hK⟩ := pst_join (wc := [(q_9, .inr (5, [.int 0, .null, .int 0]))]) (wr := [(h, .inr (20, [.ref q_1, .ref q_3, .ref q_5, .ref q_7, .null, .null, .null, .null, .null, .int 0, .int 0, .int 0, .int 0, .int 0])), (q_1, .inr (5, [.int 0, .ref (E 0), .int 0])), (q_3, .inr (5, [.int 0, .ref (E 0), .int 0])), (q_5, .inr (5, [.int 0, .ref (E 0), .int 0])), (q_7, .inr (5, [.int 0, .ref (E 0), .int 0]))]) (w1 := [(q_9, .inr (5, [.int 0, .ref (E 0), .int 0]))]) (tr := []) (t1 := []) hP hD hK [5] [0, 1, 2, 3, 4] [] rfl rfl rfl (by decide) (by decide) hk1 hFc ht hvm hB
  generalize H1 = H at hP hS ⊢
  have hP : va_P (dC, dI) vwCl [(h, .inr (20, [.ref q_1, .ref q_3, .ref q_5, .ref q_7, .null, .null, .null, .null, .null, .int 0, .int 0, .int 0, .int 0, .int 0])), (q_1, .inr (5, [.int 0, .ref (E 0), .int 0])), (q_3, .inr (5, [.int 0, .ref (E 0), .int 0])), (q_5, .inr (5, [.int 0, .ref (E 0), .int 0])), (q_7, .inr (5, [.int 0, .ref (E 0), .int 0])), (q_9, .inr (5, [.int 0, .ref (E 0), .int 0]))] H := hP
  have hD : va_D A [(h, .inr (20, [.ref q_1, .ref q_3, .ref q_5, .ref q_7, .null, .null, .null, .null, .null, .int 0, .int 0, .int 0, .int 0, .int 0])), (q_1, .inr (5, [.int 0, .ref (E 0), .int 0])), (q_3, .inr (5, [.int 0, .ref (E 0), .int 0])), (q_5, .inr (5, [.int 0, .ref (E 0), .int 0])), (q_7, .inr (5, [.int 0, .ref (E 0), .int 0])), (q_9, .inr (5, [.int 0, .ref (E 0), .int 0]))] := hD
  have hK : va_K (dC, dI) vwCl [] s := hK
  refine W.widen (k := 5) (n := 15) (Nat.le_of_ble_eq_true rfl) (Nat.le_of_ble_eq_true rfl) ?_
  refine va_putF (D := (dC, dI)) (ci := 20) (v := .ref q_9) (ty := .object "java/util/List") (C := RX14) (T := TX14) (N := 14) hx hb hts (by decide +kernel) tyX14 tyX14_ok nmX14 hown hK hP hD hS 0 rfl rfl 4 (by decide) (hts (.fieldLink RX14 27 "OrbitdockModel$Station" "devices" "Ljava/util/List;") (by decide +kernel)) (fun _ h9 => h9) rfl hin rfl (by decide +kernel) rfl rfl (Nat.le_of_ble_eq_true rfl) dX14_init_56 (fun H locs hP hD hS => ?_)
  have hP : va_P (dC, dI) vwCl [(h, .inr (20, [.ref q_1, .ref q_3, .ref q_5, .ref q_7, .ref q_9, .null, .null, .null, .null, .int 0, .int 0, .int 0, .int 0, .int 0])), (q_1, .inr (5, [.int 0, .ref (E 0), .int 0])), (q_3, .inr (5, [.int 0, .ref (E 0), .int 0])), (q_5, .inr (5, [.int 0, .ref (E 0), .int 0])), (q_7, .inr (5, [.int 0, .ref (E 0), .int 0])), (q_9, .inr (5, [.int 0, .ref (E 0), .int 0]))] H := hP
  have hD : va_D A [(h, .inr (20, [.ref q_1, .ref q_3, .ref q_5, .ref q_7, .ref q_9, .null, .null, .null, .null, .int 0, .int 0, .int 0, .int 0, .int 0])), (q_1, .inr (5, [.int 0, .ref (E 0), .int 0])), (q_3, .inr (5, [.int 0, .ref (E 0), .int 0])), (q_5, .inr (5, [.int 0, .ref (E 0), .int 0])), (q_7, .inr (5, [.int 0, .ref (E 0), .int 0])), (q_9, .inr (5, [.int 0, .ref (E 0), .int 0]))] := hD
  refine lv_aload_n hx hb dX14_init_59 rfl (lv_at hl 0 rfl) ?_
  refine va_new (ci := 5) (fs := [.int 0, .null, .int 0]) (C := RJx4a65c) (T := TJx4a65c) (N := 3) hx hb hts (by decide +kernel) tyJx4a65c tyJx4a65c_ok hown (hts (.classLink RX14 9 RJx4a65c) (by decide +kernel)) (hts (.instantiable RJx4a65c 3) (by decide +kernel)) (hts (.initialized RJx4a65c) (by decide +kernel)) hK hP hD hS hA rfl (fun j hj => by rcases (show j = 0 ∨ j = 1 ∨ j = 2 by omega) with rfl | rfl | rfl <;> rfl) (Nat.le_of_ble_eq_true rfl) (Nat.le_of_ble_eq_true rfl) dX14_init_60 (fun q_11 H hP hD hS => ?_)
  have hP : va_P (dC, dI) vwCl [(h, .inr (20, [.ref q_1, .ref q_3, .ref q_5, .ref q_7, .ref q_9, .null, .null, .null, .null, .int 0, .int 0, .int 0, .int 0, .int 0])), (q_1, .inr (5, [.int 0, .ref (E 0), .int 0])), (q_3, .inr (5, [.int 0, .ref (E 0), .int 0])), (q_5, .inr (5, [.int 0, .ref (E 0), .int 0])), (q_7, .inr (5, [.int 0, .ref (E 0), .int 0])), (q_9, .inr (5, [.int 0, .ref (E 0), .int 0])), (q_11, .inr (5, [.int 0, .null, .int 0]))] H := hP
  have hD : va_D A [(h, .inr (20, [.ref q_1, .ref q_3, .ref q_5, .ref q_7, .ref q_9, .null, .null, .null, .null, .int 0, .int 0, .int 0, .int 0, .int 0])), (q_1, .inr (5, [.int 0, .ref (E 0), .int 0])), (q_3, .inr (5, [.int 0, .ref (E 0), .int 0])), (q_5, .inr (5, [.int 0, .ref (E 0), .int 0])), (q_7, .inr (5, [.int 0, .ref (E 0), .int 0])), (q_9, .inr (5, [.int 0, .ref (E 0), .int 0])), (q_11, .inr (5, [.int 0, .null, .int 0]))] := hD
  refine W.widen (k := 6) (n := 18) (Nat.le_of_ble_eq_true rfl) (Nat.le_of_ble_eq_true rfl) ?_
  refine lv_dup hx hb dX14_init_63 rfl ?_
  have hPc := hP.sub (ws' := [(q_11, .inr (5, [.int 0, .null, .int 0]))]) [6] rfl
  have hDc := hD.sub (ws' := [(q_11, .inr (5, [.int 0, .null, .int 0]))]) [6] (by decide) rfl
  have hKc := hK.sub (tys' := []) [] rfl
  have hFc := va_free (wc := [(q_11, .inr (5, [.int 0, .null, .int 0]))]) hD hS hA [6] rfl
  refine va_callv (va_runI (As := []) (rest := [.ref q_11, .ref h]) ⟨hx, hb, hml, hown, hts⟩ (c_al_init l dC dI E q_11 H.size) (cwI 0 hts gX14_init_Jx4a65c_init_da8c8 rfl rfl rfl (hts (.initialized RJx4a65c) (by decide +kernel)) (hts (.methodLink RX14 11 yJx4a65c_init_da8c8) (by decide +kernel)) (hts (.instanceMethod yJx4a65c_init_da8c8) (by decide +kernel)) rfl (by decide +kernel) ⟨(Nat.le_of_ble_eq_true rfl), (Nat.le_of_ble_eq_true rfl)⟩) ⟨pre_blind, pre_call hPc hDc hKc hFc hE hZ hS⟩ rfl rfl hl.1 rfl (lv_room (Nat.le_of_ble_eq_true rfl)) dX14_init_64 ⟨(Nat.le_of_ble_eq_true rfl), (Nat.le_of_ble_eq_true rfl)⟩) hS (fun q _ h => hFc q h) hFc (fun u t H1 locs1 ht hvm hw hB hz1 hk1 hS => ?_)
  obtain ⟨hP, hD, hK⟩ := pst_join (wc := [(q_11, .inr (5, [.int 0, .null, .int 0]))]) (wr := [(h, .inr (20, [.ref q_1, .ref q_3, .ref q_5, .ref q_7, .ref q_9, .null, .null, .null, .null, .int 0, .int 0, .int 0, .int 0, .int 0])), (q_1, .inr (5, [.int 0, .ref (E 0), .int 0])), (q_3, .inr (5, [.int 0, .ref (E 0), .int 0])), (q_5, .inr (5, [.int 0, .ref (E 0), .int 0])), (q_7, .inr (5, [.int 0, .ref (E 0), .int 0])), (q_9, .inr (5, [.int 0, .ref (E 0), .int 0]))]) (w1 := [(q_11, .inr (5, [.int 0, .ref (E 0), .int 0]))]) (tr := []) (t1 := []) hP hD hK [6] [0, 1, 2, 3, 4, 5] [] rfl rfl rfl (by decide) (by decide) hk1 hFc ht hvm hB
  generalize H1 = H at hP hS ⊢
  have hP : va_P (dC, dI) vwCl [(h, .inr (20, [.ref q_1, .ref q_3, .ref q_5, .ref q_7, .ref q_9, .null, .null, .null, .null, .int 0, .int 0, .int 0, .int 0, .int 0])), (q_1, .inr (5, [.int 0, .ref (E 0), .int 0])), (q_3, .inr (5, [.int 0, .ref (E 0), .int 0])), (q_5, .inr (5, [.int 0, .ref (E 0), .int 0])), (q_7, .inr (5, [.int 0, .ref (E 0), .int 0])), (q_9, .inr (5, [.int 0, .ref (E 0), .int 0])), (q_11, .inr (5, [.int 0, .ref (E 0), .int 0]))] H := hP
  have hD : va_D A [(h, .inr (20, [.ref q_1, .ref q_3, .ref q_5, .ref q_7, .ref q_9, .null, .null, .null, .null, .int 0, .int 0, .int 0, .int 0, .int 0])), (q_1, .inr (5, [.int 0, .ref (E 0), .int 0])), (q_3, .inr (5, [.int 0, .ref (E 0), .int 0])), (q_5, .inr (5, [.int 0, .ref (E 0), .int 0])), (q_7, .inr (5, [.int 0, .ref (E 0), .int 0])), (q_9, .inr (5, [.int 0, .ref (E 0), .int 0])), (q_11, .inr (5, [.int 0, .ref (E 0), .int 0]))] := hD
  have hK : va_K (dC, dI) vwCl [] s := hK
  refine W.widen (k := 6) (n := 18) (Nat.le_of_ble_eq_true rfl) (Nat.le_of_ble_eq_true rfl) ?_
  refine va_putF (D := (dC, dI)) (ci := 20) (v := .ref q_11) (ty := .object "java/util/List") (C := RX14) (T := TX14) (N := 14) hx hb hts (by decide +kernel) tyX14 tyX14_ok nmX14 hown hK hP hD hS 0 rfl rfl 5 (by decide) (hts (.fieldLink RX14 30 "OrbitdockModel$Station" "people" "Ljava/util/List;") (by decide +kernel)) (fun _ h9 => h9) rfl hin rfl (by decide +kernel) rfl rfl (Nat.le_of_ble_eq_true rfl) dX14_init_67 (fun H locs hP hD hS => ?_)
  have hP : va_P (dC, dI) vwCl [(h, .inr (20, [.ref q_1, .ref q_3, .ref q_5, .ref q_7, .ref q_9, .ref q_11, .null, .null, .null, .int 0, .int 0, .int 0, .int 0, .int 0])), (q_1, .inr (5, [.int 0, .ref (E 0), .int 0])), (q_3, .inr (5, [.int 0, .ref (E 0), .int 0])), (q_5, .inr (5, [.int 0, .ref (E 0), .int 0])), (q_7, .inr (5, [.int 0, .ref (E 0), .int 0])), (q_9, .inr (5, [.int 0, .ref (E 0), .int 0])), (q_11, .inr (5, [.int 0, .ref (E 0), .int 0]))] H := hP
  have hD : va_D A [(h, .inr (20, [.ref q_1, .ref q_3, .ref q_5, .ref q_7, .ref q_9, .ref q_11, .null, .null, .null, .int 0, .int 0, .int 0, .int 0, .int 0])), (q_1, .inr (5, [.int 0, .ref (E 0), .int 0])), (q_3, .inr (5, [.int 0, .ref (E 0), .int 0])), (q_5, .inr (5, [.int 0, .ref (E 0), .int 0])), (q_7, .inr (5, [.int 0, .ref (E 0), .int 0])), (q_9, .inr (5, [.int 0, .ref (E 0), .int 0])), (q_11, .inr (5, [.int 0, .ref (E 0), .int 0]))] := hD
  refine lv_aload_n hx hb dX14_init_70 rfl (lv_at hl 0 rfl) ?_
  refine va_new (ci := 5) (fs := [.int 0, .null, .int 0]) (C := RJx4a65c) (T := TJx4a65c) (N := 3) hx hb hts (by decide +kernel) tyJx4a65c tyJx4a65c_ok hown (hts (.classLink RX14 9 RJx4a65c) (by decide +kernel)) (hts (.instantiable RJx4a65c 3) (by decide +kernel)) (hts (.initialized RJx4a65c) (by decide +kernel)) hK hP hD hS hA rfl (fun j hj => by rcases (show j = 0 ∨ j = 1 ∨ j = 2 by omega) with rfl | rfl | rfl <;> rfl) (Nat.le_of_ble_eq_true rfl) (Nat.le_of_ble_eq_true rfl) dX14_init_71 (fun q_13 H hP hD hS => ?_)
  have hP : va_P (dC, dI) vwCl [(h, .inr (20, [.ref q_1, .ref q_3, .ref q_5, .ref q_7, .ref q_9, .ref q_11, .null, .null, .null, .int 0, .int 0, .int 0, .int 0, .int 0])), (q_1, .inr (5, [.int 0, .ref (E 0), .int 0])), (q_3, .inr (5, [.int 0, .ref (E 0), .int 0])), (q_5, .inr (5, [.int 0, .ref (E 0), .int 0])), (q_7, .inr (5, [.int 0, .ref (E 0), .int 0])), (q_9, .inr (5, [.int 0, .ref (E 0), .int 0])), (q_11, .inr (5, [.int 0, .ref (E 0), .int 0])), (q_13, .inr (5, [.int 0, .null, .int 0]))] H := hP
  have hD : va_D A [(h, .inr (20, [.ref q_1, .ref q_3, .ref q_5, .ref q_7, .ref q_9, .ref q_11, .null, .null, .null, .int 0, .int 0, .int 0, .int 0, .int 0])), (q_1, .inr (5, [.int 0, .ref (E 0), .int 0])), (q_3, .inr (5, [.int 0, .ref (E 0), .int 0])), (q_5, .inr (5, [.int 0, .ref (E 0), .int 0])), (q_7, .inr (5, [.int 0, .ref (E 0), .int 0])), (q_9, .inr (5, [.int 0, .ref (E 0), .int 0])), (q_11, .inr (5, [.int 0, .ref (E 0), .int 0])), (q_13, .inr (5, [.int 0, .null, .int 0]))] := hD
  refine W.widen (k := 7) (n := 21) (Nat.le_of_ble_eq_true rfl) (Nat.le_of_ble_eq_true rfl) ?_
  refine lv_dup hx hb dX14_init_74 rfl ?_
  have hPc := hP.sub (ws' := [(q_13, .inr (5, [.int 0, .null, .int 0]))]) [7] rfl
  have hDc := hD.sub (ws' := [(q_13, .inr (5, [.int 0, .null, .int 0]))]) [7] (by decide) rfl
  have hKc := hK.sub (tys' := []) [] rfl
  have hFc := va_free (wc := [(q_13, .inr (5, [.int 0, .null, .int 0]))]) hD hS hA [7] rfl
  refine va_callv (va_runI (As := []) (rest := [.ref q_13, .ref h]) ⟨hx, hb, hml, hown, hts⟩ (c_al_init l dC dI E q_13 H.size) (cwI 0 hts gX14_init_Jx4a65c_init_da8c8 rfl rfl rfl (hts (.initialized RJx4a65c) (by decide +kernel)) (hts (.methodLink RX14 11 yJx4a65c_init_da8c8) (by decide +kernel)) (hts (.instanceMethod yJx4a65c_init_da8c8) (by decide +kernel)) rfl (by decide +kernel) ⟨(Nat.le_of_ble_eq_true rfl), (Nat.le_of_ble_eq_true rfl)⟩) ⟨pre_blind, pre_call hPc hDc hKc hFc hE hZ hS⟩ rfl rfl hl.1 rfl (lv_room (Nat.le_of_ble_eq_true rfl)) dX14_init_75 ⟨(Nat.le_of_ble_eq_true rfl), (Nat.le_of_ble_eq_true rfl)⟩) hS (fun q _ h => hFc q h) hFc (fun u t H1 locs1 ht hvm hw hB hz1 hk1 hS => ?_)
  obtain ⟨hP, hD, hK⟩ := pst_join (wc := [(q_13, .inr (5, [.int 0, .null, .int 0]))]) (wr := [(h, .inr (20, [.ref q_1, .ref q_3, .ref q_5, .ref q_7, .ref q_9, .ref q_11, .null, .null, .null, .int 0, .int 0, .int 0, .int 0, .int 0])), (q_1, .inr (5, [.int 0, .ref (E 0), .int 0])), (q_3, .inr (5, [.int 0, .ref (E 0), .int 0])), (q_5, .inr (5, [.int 0, .ref (E 0), .int 0])), (q_7, .inr (5, [.int 0, .ref (E 0), .int 0])), (q_9, .inr (5, [.int 0, .ref (E 0), .int 0])), (q_11, .inr (5, [.int 0, .ref (E 0), .int 0]))]) (w1 := [(q_13, .inr (5, [.int 0, .ref (E 0), .int 0]))]) (tr := []) (t1 := []) hP hD hK [7] [0, 1, 2, 3, 4, 5, 6] [] rfl rfl rfl (by decide) (by decide) hk1 hFc ht hvm hB
  generalize H1 = H at hP hS ⊢
  have hP : va_P (dC, dI) vwCl [(h, .inr (20, [.ref q_1, .ref q_3, .ref q_5, .ref q_7, .ref q_9, .ref q_11, .null, .null, .null, .int 0, .int 0, .int 0, .int 0, .int 0])), (q_1, .inr (5, [.int 0, .ref (E 0), .int 0])), (q_3, .inr (5, [.int 0, .ref (E 0), .int 0])), (q_5, .inr (5, [.int 0, .ref (E 0), .int 0])), (q_7, .inr (5, [.int 0, .ref (E 0), .int 0])), (q_9, .inr (5, [.int 0, .ref (E 0), .int 0])), (q_11, .inr (5, [.int 0, .ref (E 0), .int 0])), (q_13, .inr (5, [.int 0, .ref (E 0), .int 0]))] H := hP
  have hD : va_D A [(h, .inr (20, [.ref q_1, .ref q_3, .ref q_5, .ref q_7, .ref q_9, .ref q_11, .null, .null, .null, .int 0, .int 0, .int 0, .int 0, .int 0])), (q_1, .inr (5, [.int 0, .ref (E 0), .int 0])), (q_3, .inr (5, [.int 0, .ref (E 0), .int 0])), (q_5, .inr (5, [.int 0, .ref (E 0), .int 0])), (q_7, .inr (5, [.int 0, .ref (E 0), .int 0])), (q_9, .inr (5, [.int 0, .ref (E 0), .int 0])), (q_11, .inr (5, [.int 0, .ref (E 0), .int 0])), (q_13, .inr (5, [.int 0, .ref (E 0), .int 0]))] := hD
  have hK : va_K (dC, dI) vwCl [] s := hK
  refine W.widen (k := 7) (n := 21) (Nat.le_of_ble_eq_true rfl) (Nat.le_of_ble_eq_true rfl) ?_
  refine va_putF (D := (dC, dI)) (ci := 20) (v := .ref q_13) (ty := .object "java/util/List") (C := RX14) (T := TX14) (N := 14) hx hb hts (by decide +kernel) tyX14 tyX14_ok nmX14 hown hK hP hD hS 0 rfl rfl 6 (by decide) (hts (.fieldLink RX14 33 "OrbitdockModel$Station" "ships" "Ljava/util/List;") (by decide +kernel)) (fun _ h9 => h9) rfl hin rfl (by decide +kernel) rfl rfl (Nat.le_of_ble_eq_true rfl) dX14_init_78 (fun H locs hP hD hS => ?_)
  have hP : va_P (dC, dI) vwCl [(h, .inr (20, [.ref q_1, .ref q_3, .ref q_5, .ref q_7, .ref q_9, .ref q_11, .ref q_13, .null, .null, .int 0, .int 0, .int 0, .int 0, .int 0])), (q_1, .inr (5, [.int 0, .ref (E 0), .int 0])), (q_3, .inr (5, [.int 0, .ref (E 0), .int 0])), (q_5, .inr (5, [.int 0, .ref (E 0), .int 0])), (q_7, .inr (5, [.int 0, .ref (E 0), .int 0])), (q_9, .inr (5, [.int 0, .ref (E 0), .int 0])), (q_11, .inr (5, [.int 0, .ref (E 0), .int 0])), (q_13, .inr (5, [.int 0, .ref (E 0), .int 0]))] H := hP
  have hD : va_D A [(h, .inr (20, [.ref q_1, .ref q_3, .ref q_5, .ref q_7, .ref q_9, .ref q_11, .ref q_13, .null, .null, .int 0, .int 0, .int 0, .int 0, .int 0])), (q_1, .inr (5, [.int 0, .ref (E 0), .int 0])), (q_3, .inr (5, [.int 0, .ref (E 0), .int 0])), (q_5, .inr (5, [.int 0, .ref (E 0), .int 0])), (q_7, .inr (5, [.int 0, .ref (E 0), .int 0])), (q_9, .inr (5, [.int 0, .ref (E 0), .int 0])), (q_11, .inr (5, [.int 0, .ref (E 0), .int 0])), (q_13, .inr (5, [.int 0, .ref (E 0), .int 0]))] := hD
  refine lv_aload_n hx hb dX14_init_81 rfl (lv_at hl 0 rfl) ?_
  refine va_new (ci := 5) (fs := [.int 0, .null, .int 0]) (C := RJx4a65c) (T := TJx4a65c) (N := 3) hx hb hts (by decide +kernel) tyJx4a65c tyJx4a65c_ok hown (hts (.classLink RX14 9 RJx4a65c) (by decide +kernel)) (hts (.instantiable RJx4a65c 3) (by decide +kernel)) (hts (.initialized RJx4a65c) (by decide +kernel)) hK hP hD hS hA rfl (fun j hj => by rcases (show j = 0 ∨ j = 1 ∨ j = 2 by omega) with rfl | rfl | rfl <;> rfl) (Nat.le_of_ble_eq_true rfl) (Nat.le_of_ble_eq_true rfl) dX14_init_82 (fun q_15 H hP hD hS => ?_)
  have hP : va_P (dC, dI) vwCl [(h, .inr (20, [.ref q_1, .ref q_3, .ref q_5, .ref q_7, .ref q_9, .ref q_11, .ref q_13, .null, .null, .int 0, .int 0, .int 0, .int 0, .int 0])), (q_1, .inr (5, [.int 0, .ref (E 0), .int 0])), (q_3, .inr (5, [.int 0, .ref (E 0), .int 0])), (q_5, .inr (5, [.int 0, .ref (E 0), .int 0])), (q_7, .inr (5, [.int 0, .ref (E 0), .int 0])), (q_9, .inr (5, [.int 0, .ref (E 0), .int 0])), (q_11, .inr (5, [.int 0, .ref (E 0), .int 0])), (q_13, .inr (5, [.int 0, .ref (E 0), .int 0])), (q_15, .inr (5, [.int 0, .null, .int 0]))] H := hP
  have hD : va_D A [(h, .inr (20, [.ref q_1, .ref q_3, .ref q_5, .ref q_7, .ref q_9, .ref q_11, .ref q_13, .null, .null, .int 0, .int 0, .int 0, .int 0, .int 0])), (q_1, .inr (5, [.int 0, .ref (E 0), .int 0])), (q_3, .inr (5, [.int 0, .ref (E 0), .int 0])), (q_5, .inr (5, [.int 0, .ref (E 0), .int 0])), (q_7, .inr (5, [.int 0, .ref (E 0), .int 0])), (q_9, .inr (5, [.int 0, .ref (E 0), .int 0])), (q_11, .inr (5, [.int 0, .ref (E 0), .int 0])), (q_13, .inr (5, [.int 0, .ref (E 0), .int 0])), (q_15, .inr (5, [.int 0, .null, .int 0]))] := hD
  refine W.widen (k := 8) (n := 24) (Nat.le_of_ble_eq_true rfl) (Nat.le_of_ble_eq_true rfl) ?_
  refine lv_dup hx hb dX14_init_85 rfl ?_
  have hPc := hP.sub (ws' := [(q_15, .inr (5, [.int 0, .null, .int 0]))]) [8] rfl
  have hDc := hD.sub (ws' := [(q_15, .inr (5, [.int 0, .null, .int 0]))]) [8] (by decide) rfl
  have hKc := hK.sub (tys' := []) [] rfl
  have hFc := va_free (wc := [(q_15, .inr (5, [.int 0, .null, .int 0]))]) hD hS hA [8] rfl
  refine va_callv (va_runI (As := []) (rest := [.ref q_15, .ref h]) ⟨hx, hb, hml, hown, hts⟩ (c_al_init l dC dI E q_15 H.size) (cwI 0 hts gX14_init_Jx4a65c_init_da8c8 rfl rfl rfl (hts (.initialized RJx4a65c) (by decide +kernel)) (hts (.methodLink RX14 11 yJx4a65c_init_da8c8) (by decide +kernel)) (hts (.instanceMethod yJx4a65c_init_da8c8) (by decide +kernel)) rfl (by decide +kernel) ⟨(Nat.le_of_ble_eq_true rfl), (Nat.le_of_ble_eq_true rfl)⟩) ⟨pre_blind, pre_call hPc hDc hKc hFc hE hZ hS⟩ rfl rfl hl.1 rfl (lv_room (Nat.le_of_ble_eq_true rfl)) dX14_init_86 ⟨(Nat.le_of_ble_eq_true rfl), (Nat.le_of_ble_eq_true rfl)⟩) hS (fun q _ h => hFc q h) hFc (fun u t H1 locs1 ht hvm hw hB hz1 hk1 hS => ?_)
  obtain ⟨hP, hD, hK⟩ := pst_join (wc := [(q_15, .inr (5, [.int 0, .null, .int 0]))]) (wr := [(h, .inr (20, [.ref q_1, .ref q_3, .ref q_5, .ref q_7, .ref q_9, .ref q_11, .ref q_13, .null, .null, .int 0, .int 0, .int 0, .int 0, .int 0])), (q_1, .inr (5, [.int 0, .ref (E 0), .int 0])), (q_3, .inr (5, [.int 0, .ref (E 0), .int 0])), (q_5, .inr (5, [.int 0, .ref (E 0), .int 0])), (q_7, .inr (5, [.int 0, .ref (E 0), .int 0])), (q_9, .inr (5, [.int 0, .ref (E 0), .int 0])), (q_11, .inr (5, [.int 0, .ref (E 0), .int 0])), (q_13, .inr (5, [.int 0, .ref (E 0), .int 0]))]) (w1 := [(q_15, .inr (5, [.int 0, .ref (E 0), .int 0]))]) (tr := []) (t1 := []) hP hD hK [8] [0, 1, 2, 3, 4, 5, 6, 7] [] rfl rfl rfl (by decide) (by decide) hk1 hFc ht hvm hB
  generalize H1 = H at hP hS ⊢
  have hP : va_P (dC, dI) vwCl [(h, .inr (20, [.ref q_1, .ref q_3, .ref q_5, .ref q_7, .ref q_9, .ref q_11, .ref q_13, .null, .null, .int 0, .int 0, .int 0, .int 0, .int 0])), (q_1, .inr (5, [.int 0, .ref (E 0), .int 0])), (q_3, .inr (5, [.int 0, .ref (E 0), .int 0])), (q_5, .inr (5, [.int 0, .ref (E 0), .int 0])), (q_7, .inr (5, [.int 0, .ref (E 0), .int 0])), (q_9, .inr (5, [.int 0, .ref (E 0), .int 0])), (q_11, .inr (5, [.int 0, .ref (E 0), .int 0])), (q_13, .inr (5, [.int 0, .ref (E 0), .int 0])), (q_15, .inr (5, [.int 0, .ref (E 0), .int 0]))] H := hP
  have hD : va_D A [(h, .inr (20, [.ref q_1, .ref q_3, .ref q_5, .ref q_7, .ref q_9, .ref q_11, .ref q_13, .null, .null, .int 0, .int 0, .int 0, .int 0, .int 0])), (q_1, .inr (5, [.int 0, .ref (E 0), .int 0])), (q_3, .inr (5, [.int 0, .ref (E 0), .int 0])), (q_5, .inr (5, [.int 0, .ref (E 0), .int 0])), (q_7, .inr (5, [.int 0, .ref (E 0), .int 0])), (q_9, .inr (5, [.int 0, .ref (E 0), .int 0])), (q_11, .inr (5, [.int 0, .ref (E 0), .int 0])), (q_13, .inr (5, [.int 0, .ref (E 0), .int 0])), (q_15, .inr (5, [.int 0, .ref (E 0), .int 0]))] := hD
  have hK : va_K (dC, dI) vwCl [] s := hK
  refine W.widen (k := 8) (n := 24) (Nat.le_of_ble_eq_true rfl) (Nat.le_of_ble_eq_true rfl) ?_
  refine va_putF (D := (dC, dI)) (ci := 20) (v := .ref q_15) (ty := .object "java/util/List") (C := RX14) (T := TX14) (N := 14) hx hb hts (by decide +kernel) tyX14 tyX14_ok nmX14 hown hK hP hD hS 0 rfl rfl 7 (by decide) (hts (.fieldLink RX14 36 "OrbitdockModel$Station" "commands" "Ljava/util/List;") (by decide +kernel)) (fun _ h9 => h9) rfl hin rfl (by decide +kernel) rfl rfl (Nat.le_of_ble_eq_true rfl) dX14_init_89 (fun H locs hP hD hS => ?_)
  have hP : va_P (dC, dI) vwCl [(h, .inr (20, [.ref q_1, .ref q_3, .ref q_5, .ref q_7, .ref q_9, .ref q_11, .ref q_13, .ref q_15, .null, .int 0, .int 0, .int 0, .int 0, .int 0])), (q_1, .inr (5, [.int 0, .ref (E 0), .int 0])), (q_3, .inr (5, [.int 0, .ref (E 0), .int 0])), (q_5, .inr (5, [.int 0, .ref (E 0), .int 0])), (q_7, .inr (5, [.int 0, .ref (E 0), .int 0])), (q_9, .inr (5, [.int 0, .ref (E 0), .int 0])), (q_11, .inr (5, [.int 0, .ref (E 0), .int 0])), (q_13, .inr (5, [.int 0, .ref (E 0), .int 0])), (q_15, .inr (5, [.int 0, .ref (E 0), .int 0]))] H := hP
  have hD : va_D A [(h, .inr (20, [.ref q_1, .ref q_3, .ref q_5, .ref q_7, .ref q_9, .ref q_11, .ref q_13, .ref q_15, .null, .int 0, .int 0, .int 0, .int 0, .int 0])), (q_1, .inr (5, [.int 0, .ref (E 0), .int 0])), (q_3, .inr (5, [.int 0, .ref (E 0), .int 0])), (q_5, .inr (5, [.int 0, .ref (E 0), .int 0])), (q_7, .inr (5, [.int 0, .ref (E 0), .int 0])), (q_9, .inr (5, [.int 0, .ref (E 0), .int 0])), (q_11, .inr (5, [.int 0, .ref (E 0), .int 0])), (q_13, .inr (5, [.int 0, .ref (E 0), .int 0])), (q_15, .inr (5, [.int 0, .ref (E 0), .int 0]))] := hD
  refine lv_aload_n hx hb dX14_init_92 rfl (lv_at hl 0 rfl) ?_
  refine va_new (ci := 5) (fs := [.int 0, .null, .int 0]) (C := RJx4a65c) (T := TJx4a65c) (N := 3) hx hb hts (by decide +kernel) tyJx4a65c tyJx4a65c_ok hown (hts (.classLink RX14 9 RJx4a65c) (by decide +kernel)) (hts (.instantiable RJx4a65c 3) (by decide +kernel)) (hts (.initialized RJx4a65c) (by decide +kernel)) hK hP hD hS hA rfl (fun j hj => by rcases (show j = 0 ∨ j = 1 ∨ j = 2 by omega) with rfl | rfl | rfl <;> rfl) (Nat.le_of_ble_eq_true rfl) (Nat.le_of_ble_eq_true rfl) dX14_init_93 (fun q_17 H hP hD hS => ?_)
  have hP : va_P (dC, dI) vwCl [(h, .inr (20, [.ref q_1, .ref q_3, .ref q_5, .ref q_7, .ref q_9, .ref q_11, .ref q_13, .ref q_15, .null, .int 0, .int 0, .int 0, .int 0, .int 0])), (q_1, .inr (5, [.int 0, .ref (E 0), .int 0])), (q_3, .inr (5, [.int 0, .ref (E 0), .int 0])), (q_5, .inr (5, [.int 0, .ref (E 0), .int 0])), (q_7, .inr (5, [.int 0, .ref (E 0), .int 0])), (q_9, .inr (5, [.int 0, .ref (E 0), .int 0])), (q_11, .inr (5, [.int 0, .ref (E 0), .int 0])), (q_13, .inr (5, [.int 0, .ref (E 0), .int 0])), (q_15, .inr (5, [.int 0, .ref (E 0), .int 0])), (q_17, .inr (5, [.int 0, .null, .int 0]))] H := hP
  have hD : va_D A [(h, .inr (20, [.ref q_1, .ref q_3, .ref q_5, .ref q_7, .ref q_9, .ref q_11, .ref q_13, .ref q_15, .null, .int 0, .int 0, .int 0, .int 0, .int 0])), (q_1, .inr (5, [.int 0, .ref (E 0), .int 0])), (q_3, .inr (5, [.int 0, .ref (E 0), .int 0])), (q_5, .inr (5, [.int 0, .ref (E 0), .int 0])), (q_7, .inr (5, [.int 0, .ref (E 0), .int 0])), (q_9, .inr (5, [.int 0, .ref (E 0), .int 0])), (q_11, .inr (5, [.int 0, .ref (E 0), .int 0])), (q_13, .inr (5, [.int 0, .ref (E 0), .int 0])), (q_15, .inr (5, [.int 0, .ref (E 0), .int 0])), (q_17, .inr (5, [.int 0, .null, .int 0]))] := hD
  refine W.widen (k := 9) (n := 27) (Nat.le_of_ble_eq_true rfl) (Nat.le_of_ble_eq_true rfl) ?_
  refine lv_dup hx hb dX14_init_96 rfl ?_
  have hPc := hP.sub (ws' := [(q_17, .inr (5, [.int 0, .null, .int 0]))]) [9] rfl
  have hDc := hD.sub (ws' := [(q_17, .inr (5, [.int 0, .null, .int 0]))]) [9] (by decide) rfl
  have hKc := hK.sub (tys' := []) [] rfl
  have hFc := va_free (wc := [(q_17, .inr (5, [.int 0, .null, .int 0]))]) hD hS hA [9] rfl
  refine va_callv (va_runI (As := []) (rest := [.ref q_17, .ref h]) ⟨hx, hb, hml, hown, hts⟩ (c_al_init l dC dI E q_17 H.size) (cwI 0 hts gX14_init_Jx4a65c_init_da8c8 rfl rfl rfl (hts (.initialized RJx4a65c) (by decide +kernel)) (hts (.methodLink RX14 11 yJx4a65c_init_da8c8) (by decide +kernel)) (hts (.instanceMethod yJx4a65c_init_da8c8) (by decide +kernel)) rfl (by decide +kernel) ⟨(Nat.le_of_ble_eq_true rfl), (Nat.le_of_ble_eq_true rfl)⟩) ⟨pre_blind, pre_call hPc hDc hKc hFc hE hZ hS⟩ rfl rfl hl.1 rfl (lv_room (Nat.le_of_ble_eq_true rfl)) dX14_init_97 ⟨(Nat.le_of_ble_eq_true rfl), (Nat.le_of_ble_eq_true rfl)⟩) hS (fun q _ h => hFc q h) hFc (fun u t H1 locs1 ht hvm hw hB hz1 hk1 hS => ?_)
  obtain ⟨hP, hD, hK⟩ := pst_join (wc := [(q_17, .inr (5, [.int 0, .null, .int 0]))]) (wr := [(h, .inr (20, [.ref q_1, .ref q_3, .ref q_5, .ref q_7, .ref q_9, .ref q_11, .ref q_13, .ref q_15, .null, .int 0, .int 0, .int 0, .int 0, .int 0])), (q_1, .inr (5, [.int 0, .ref (E 0), .int 0])), (q_3, .inr (5, [.int 0, .ref (E 0), .int 0])), (q_5, .inr (5, [.int 0, .ref (E 0), .int 0])), (q_7, .inr (5, [.int 0, .ref (E 0), .int 0])), (q_9, .inr (5, [.int 0, .ref (E 0), .int 0])), (q_11, .inr (5, [.int 0, .ref (E 0), .int 0])), (q_13, .inr (5, [.int 0, .ref (E 0), .int 0])), (q_15, .inr (5, [.int 0, .ref (E 0), .int 0]))]) (w1 := [(q_17, .inr (5, [.int 0, .ref (E 0), .int 0]))]) (tr := []) (t1 := []) hP hD hK [9] [0, 1, 2, 3, 4, 5, 6, 7, 8] [] rfl rfl rfl (by decide) (by decide) hk1 hFc ht hvm hB
  generalize H1 = H at hP hS ⊢
  have hP : va_P (dC, dI) vwCl [(h, .inr (20, [.ref q_1, .ref q_3, .ref q_5, .ref q_7, .ref q_9, .ref q_11, .ref q_13, .ref q_15, .null, .int 0, .int 0, .int 0, .int 0, .int 0])), (q_1, .inr (5, [.int 0, .ref (E 0), .int 0])), (q_3, .inr (5, [.int 0, .ref (E 0), .int 0])), (q_5, .inr (5, [.int 0, .ref (E 0), .int 0])), (q_7, .inr (5, [.int 0, .ref (E 0), .int 0])), (q_9, .inr (5, [.int 0, .ref (E 0), .int 0])), (q_11, .inr (5, [.int 0, .ref (E 0), .int 0])), (q_13, .inr (5, [.int 0, .ref (E 0), .int 0])), (q_15, .inr (5, [.int 0, .ref (E 0), .int 0])), (q_17, .inr (5, [.int 0, .ref (E 0), .int 0]))] H := hP
  have hD : va_D A [(h, .inr (20, [.ref q_1, .ref q_3, .ref q_5, .ref q_7, .ref q_9, .ref q_11, .ref q_13, .ref q_15, .null, .int 0, .int 0, .int 0, .int 0, .int 0])), (q_1, .inr (5, [.int 0, .ref (E 0), .int 0])), (q_3, .inr (5, [.int 0, .ref (E 0), .int 0])), (q_5, .inr (5, [.int 0, .ref (E 0), .int 0])), (q_7, .inr (5, [.int 0, .ref (E 0), .int 0])), (q_9, .inr (5, [.int 0, .ref (E 0), .int 0])), (q_11, .inr (5, [.int 0, .ref (E 0), .int 0])), (q_13, .inr (5, [.int 0, .ref (E 0), .int 0])), (q_15, .inr (5, [.int 0, .ref (E 0), .int 0])), (q_17, .inr (5, [.int 0, .ref (E 0), .int 0]))] := hD
  have hK : va_K (dC, dI) vwCl [] s := hK
  refine W.widen (k := 9) (n := 27) (Nat.le_of_ble_eq_true rfl) (Nat.le_of_ble_eq_true rfl) ?_
  refine va_putF (D := (dC, dI)) (ci := 20) (v := .ref q_17) (ty := .object "java/util/List") (C := RX14) (T := TX14) (N := 14) hx hb hts (by decide +kernel) tyX14 tyX14_ok nmX14 hown hK hP hD hS 0 rfl rfl 8 (by decide) (hts (.fieldLink RX14 39 "OrbitdockModel$Station" "events" "Ljava/util/List;") (by decide +kernel)) (fun _ h9 => h9) rfl hin rfl (by decide +kernel) rfl rfl (Nat.le_of_ble_eq_true rfl) dX14_init_100 (fun H locs hP hD hS => ?_)
  have hP : va_P (dC, dI) vwCl [(h, .inr (20, [.ref q_1, .ref q_3, .ref q_5, .ref q_7, .ref q_9, .ref q_11, .ref q_13, .ref q_15, .ref q_17, .int 0, .int 0, .int 0, .int 0, .int 0])), (q_1, .inr (5, [.int 0, .ref (E 0), .int 0])), (q_3, .inr (5, [.int 0, .ref (E 0), .int 0])), (q_5, .inr (5, [.int 0, .ref (E 0), .int 0])), (q_7, .inr (5, [.int 0, .ref (E 0), .int 0])), (q_9, .inr (5, [.int 0, .ref (E 0), .int 0])), (q_11, .inr (5, [.int 0, .ref (E 0), .int 0])), (q_13, .inr (5, [.int 0, .ref (E 0), .int 0])), (q_15, .inr (5, [.int 0, .ref (E 0), .int 0])), (q_17, .inr (5, [.int 0, .ref (E 0), .int 0]))] H := hP
  have hD : va_D A [(h, .inr (20, [.ref q_1, .ref q_3, .ref q_5, .ref q_7, .ref q_9, .ref q_11, .ref q_13, .ref q_15, .ref q_17, .int 0, .int 0, .int 0, .int 0, .int 0])), (q_1, .inr (5, [.int 0, .ref (E 0), .int 0])), (q_3, .inr (5, [.int 0, .ref (E 0), .int 0])), (q_5, .inr (5, [.int 0, .ref (E 0), .int 0])), (q_7, .inr (5, [.int 0, .ref (E 0), .int 0])), (q_9, .inr (5, [.int 0, .ref (E 0), .int 0])), (q_11, .inr (5, [.int 0, .ref (E 0), .int 0])), (q_13, .inr (5, [.int 0, .ref (E 0), .int 0])), (q_15, .inr (5, [.int 0, .ref (E 0), .int 0])), (q_17, .inr (5, [.int 0, .ref (E 0), .int 0]))] := hD
  refine lv_aload_n hx hb dX14_init_103 rfl (lv_at hl 0 rfl) ?_
  refine lv_bipush (v := 10) hx hb dX14_init_104 (by decide) ?_
  refine va_put (D := (dC, dI)) (ci := 20) (v := .int 10) (ty := .int) (C := RX14) (T := TX14) (N := 14) hx hb hts (by decide +kernel) tyX14 tyX14_ok nmX14 hown hK hP hD hS 0 rfl rfl 9 (by decide) (hts (.fieldLink RX14 42 "OrbitdockModel$Station" "panels" "I") (by decide +kernel)) (fun _ h9 => h9) rfl (by decide +kernel) rfl rfl (Nat.le_of_ble_eq_true rfl) dX14_init_106 (fun H locs hP hD hS => ?_)
  have hP : va_P (dC, dI) vwCl [(h, .inr (20, [.ref q_1, .ref q_3, .ref q_5, .ref q_7, .ref q_9, .ref q_11, .ref q_13, .ref q_15, .ref q_17, .int 10, .int 0, .int 0, .int 0, .int 0])), (q_1, .inr (5, [.int 0, .ref (E 0), .int 0])), (q_3, .inr (5, [.int 0, .ref (E 0), .int 0])), (q_5, .inr (5, [.int 0, .ref (E 0), .int 0])), (q_7, .inr (5, [.int 0, .ref (E 0), .int 0])), (q_9, .inr (5, [.int 0, .ref (E 0), .int 0])), (q_11, .inr (5, [.int 0, .ref (E 0), .int 0])), (q_13, .inr (5, [.int 0, .ref (E 0), .int 0])), (q_15, .inr (5, [.int 0, .ref (E 0), .int 0])), (q_17, .inr (5, [.int 0, .ref (E 0), .int 0]))] H := hP
  have hD : va_D A [(h, .inr (20, [.ref q_1, .ref q_3, .ref q_5, .ref q_7, .ref q_9, .ref q_11, .ref q_13, .ref q_15, .ref q_17, .int 10, .int 0, .int 0, .int 0, .int 0])), (q_1, .inr (5, [.int 0, .ref (E 0), .int 0])), (q_3, .inr (5, [.int 0, .ref (E 0), .int 0])), (q_5, .inr (5, [.int 0, .ref (E 0), .int 0])), (q_7, .inr (5, [.int 0, .ref (E 0), .int 0])), (q_9, .inr (5, [.int 0, .ref (E 0), .int 0])), (q_11, .inr (5, [.int 0, .ref (E 0), .int 0])), (q_13, .inr (5, [.int 0, .ref (E 0), .int 0])), (q_15, .inr (5, [.int 0, .ref (E 0), .int 0])), (q_17, .inr (5, [.int 0, .ref (E 0), .int 0]))] := hD
  refine lv_aload_n hx hb dX14_init_109 rfl (lv_at hl 0 rfl) ?_
  refine lv_bipush (v := 100) hx hb dX14_init_110 (by decide) ?_
  refine va_put (D := (dC, dI)) (ci := 20) (v := .int 100) (ty := .int) (C := RX14) (T := TX14) (N := 14) hx hb hts (by decide +kernel) tyX14 tyX14_ok nmX14 hown hK hP hD hS 0 rfl rfl 10 (by decide) (hts (.fieldLink RX14 46 "OrbitdockModel$Station" "battery" "I") (by decide +kernel)) (fun _ h9 => h9) rfl (by decide +kernel) rfl rfl (Nat.le_of_ble_eq_true rfl) dX14_init_112 (fun H locs hP hD hS => ?_)
  have hP : va_P (dC, dI) vwCl [(h, .inr (20, [.ref q_1, .ref q_3, .ref q_5, .ref q_7, .ref q_9, .ref q_11, .ref q_13, .ref q_15, .ref q_17, .int 10, .int 100, .int 0, .int 0, .int 0])), (q_1, .inr (5, [.int 0, .ref (E 0), .int 0])), (q_3, .inr (5, [.int 0, .ref (E 0), .int 0])), (q_5, .inr (5, [.int 0, .ref (E 0), .int 0])), (q_7, .inr (5, [.int 0, .ref (E 0), .int 0])), (q_9, .inr (5, [.int 0, .ref (E 0), .int 0])), (q_11, .inr (5, [.int 0, .ref (E 0), .int 0])), (q_13, .inr (5, [.int 0, .ref (E 0), .int 0])), (q_15, .inr (5, [.int 0, .ref (E 0), .int 0])), (q_17, .inr (5, [.int 0, .ref (E 0), .int 0]))] H := hP
  have hD : va_D A [(h, .inr (20, [.ref q_1, .ref q_3, .ref q_5, .ref q_7, .ref q_9, .ref q_11, .ref q_13, .ref q_15, .ref q_17, .int 10, .int 100, .int 0, .int 0, .int 0])), (q_1, .inr (5, [.int 0, .ref (E 0), .int 0])), (q_3, .inr (5, [.int 0, .ref (E 0), .int 0])), (q_5, .inr (5, [.int 0, .ref (E 0), .int 0])), (q_7, .inr (5, [.int 0, .ref (E 0), .int 0])), (q_9, .inr (5, [.int 0, .ref (E 0), .int 0])), (q_11, .inr (5, [.int 0, .ref (E 0), .int 0])), (q_13, .inr (5, [.int 0, .ref (E 0), .int 0])), (q_15, .inr (5, [.int 0, .ref (E 0), .int 0])), (q_17, .inr (5, [.int 0, .ref (E 0), .int 0]))] := hD
  refine lv_aload_n hx hb dX14_init_115 rfl (lv_at hl 0 rfl) ?_
  refine lv_bipush (v := 50) hx hb dX14_init_116 (by decide) ?_
  refine va_put (D := (dC, dI)) (ci := 20) (v := .int 50) (ty := .int) (C := RX14) (T := TX14) (N := 14) hx hb hts (by decide +kernel) tyX14 tyX14_ok nmX14 hown hK hP hD hS 0 rfl rfl 11 (by decide) (hts (.fieldLink RX14 49 "OrbitdockModel$Station" "water" "I") (by decide +kernel)) (fun _ h9 => h9) rfl (by decide +kernel) rfl rfl (Nat.le_of_ble_eq_true rfl) dX14_init_118 (fun H locs hP hD hS => ?_)
  have hP : va_P (dC, dI) vwCl [(h, .inr (20, [.ref q_1, .ref q_3, .ref q_5, .ref q_7, .ref q_9, .ref q_11, .ref q_13, .ref q_15, .ref q_17, .int 10, .int 100, .int 50, .int 0, .int 0])), (q_1, .inr (5, [.int 0, .ref (E 0), .int 0])), (q_3, .inr (5, [.int 0, .ref (E 0), .int 0])), (q_5, .inr (5, [.int 0, .ref (E 0), .int 0])), (q_7, .inr (5, [.int 0, .ref (E 0), .int 0])), (q_9, .inr (5, [.int 0, .ref (E 0), .int 0])), (q_11, .inr (5, [.int 0, .ref (E 0), .int 0])), (q_13, .inr (5, [.int 0, .ref (E 0), .int 0])), (q_15, .inr (5, [.int 0, .ref (E 0), .int 0])), (q_17, .inr (5, [.int 0, .ref (E 0), .int 0]))] H := hP
  have hD : va_D A [(h, .inr (20, [.ref q_1, .ref q_3, .ref q_5, .ref q_7, .ref q_9, .ref q_11, .ref q_13, .ref q_15, .ref q_17, .int 10, .int 100, .int 50, .int 0, .int 0])), (q_1, .inr (5, [.int 0, .ref (E 0), .int 0])), (q_3, .inr (5, [.int 0, .ref (E 0), .int 0])), (q_5, .inr (5, [.int 0, .ref (E 0), .int 0])), (q_7, .inr (5, [.int 0, .ref (E 0), .int 0])), (q_9, .inr (5, [.int 0, .ref (E 0), .int 0])), (q_11, .inr (5, [.int 0, .ref (E 0), .int 0])), (q_13, .inr (5, [.int 0, .ref (E 0), .int 0])), (q_15, .inr (5, [.int 0, .ref (E 0), .int 0])), (q_17, .inr (5, [.int 0, .ref (E 0), .int 0]))] := hD
  refine lv_aload_n hx hb dX14_init_121 rfl (lv_at hl 0 rfl) ?_
  refine lv_iconst (v := 0) hx hb dX14_init_122 (by decide) ?_
  refine va_put (D := (dC, dI)) (ci := 20) (v := .int 0) (ty := .int) (C := RX14) (T := TX14) (N := 14) hx hb hts (by decide +kernel) tyX14 tyX14_ok nmX14 hown hK hP hD hS 0 rfl rfl 12 (by decide) (hts (.fieldLink RX14 52 "OrbitdockModel$Station" "minute" "I") (by decide +kernel)) (fun _ h9 => h9) rfl (by decide +kernel) rfl rfl (Nat.le_of_ble_eq_true rfl) dX14_init_123 (fun H locs hP hD hS => ?_)
  have hP : va_P (dC, dI) vwCl [(h, .inr (20, [.ref q_1, .ref q_3, .ref q_5, .ref q_7, .ref q_9, .ref q_11, .ref q_13, .ref q_15, .ref q_17, .int 10, .int 100, .int 50, .int 0, .int 0])), (q_1, .inr (5, [.int 0, .ref (E 0), .int 0])), (q_3, .inr (5, [.int 0, .ref (E 0), .int 0])), (q_5, .inr (5, [.int 0, .ref (E 0), .int 0])), (q_7, .inr (5, [.int 0, .ref (E 0), .int 0])), (q_9, .inr (5, [.int 0, .ref (E 0), .int 0])), (q_11, .inr (5, [.int 0, .ref (E 0), .int 0])), (q_13, .inr (5, [.int 0, .ref (E 0), .int 0])), (q_15, .inr (5, [.int 0, .ref (E 0), .int 0])), (q_17, .inr (5, [.int 0, .ref (E 0), .int 0]))] H := hP
  have hD : va_D A [(h, .inr (20, [.ref q_1, .ref q_3, .ref q_5, .ref q_7, .ref q_9, .ref q_11, .ref q_13, .ref q_15, .ref q_17, .int 10, .int 100, .int 50, .int 0, .int 0])), (q_1, .inr (5, [.int 0, .ref (E 0), .int 0])), (q_3, .inr (5, [.int 0, .ref (E 0), .int 0])), (q_5, .inr (5, [.int 0, .ref (E 0), .int 0])), (q_7, .inr (5, [.int 0, .ref (E 0), .int 0])), (q_9, .inr (5, [.int 0, .ref (E 0), .int 0])), (q_11, .inr (5, [.int 0, .ref (E 0), .int 0])), (q_13, .inr (5, [.int 0, .ref (E 0), .int 0])), (q_15, .inr (5, [.int 0, .ref (E 0), .int 0])), (q_17, .inr (5, [.int 0, .ref (E 0), .int 0]))] := hD
  refine lv_aload_n hx hb dX14_init_126 rfl (lv_at hl 0 rfl) ?_
  refine lv_iconst (v := 0) hx hb dX14_init_127 (by decide) ?_
  refine va_put (D := (dC, dI)) (ci := 20) (v := .int 0) (ty := .boolean) (C := RX14) (T := TX14) (N := 14) hx hb hts (by decide +kernel) tyX14 tyX14_ok nmX14 hown hK hP hD hS 0 rfl rfl 13 (by decide) (hts (.fieldLink RX14 55 "OrbitdockModel$Station" "isSafe" "Z") (by decide +kernel)) (fun _ h9 => h9) rfl (by decide +kernel) rfl rfl (Nat.le_of_ble_eq_true rfl) dX14_init_128 (fun H locs hP hD hS => ?_)
  have hP : va_P (dC, dI) vwCl [(h, .inr (20, [.ref q_1, .ref q_3, .ref q_5, .ref q_7, .ref q_9, .ref q_11, .ref q_13, .ref q_15, .ref q_17, .int 10, .int 100, .int 50, .int 0, .int 0])), (q_1, .inr (5, [.int 0, .ref (E 0), .int 0])), (q_3, .inr (5, [.int 0, .ref (E 0), .int 0])), (q_5, .inr (5, [.int 0, .ref (E 0), .int 0])), (q_7, .inr (5, [.int 0, .ref (E 0), .int 0])), (q_9, .inr (5, [.int 0, .ref (E 0), .int 0])), (q_11, .inr (5, [.int 0, .ref (E 0), .int 0])), (q_13, .inr (5, [.int 0, .ref (E 0), .int 0])), (q_15, .inr (5, [.int 0, .ref (E 0), .int 0])), (q_17, .inr (5, [.int 0, .ref (E 0), .int 0]))] H := hP
  have hD : va_D A [(h, .inr (20, [.ref q_1, .ref q_3, .ref q_5, .ref q_7, .ref q_9, .ref q_11, .ref q_13, .ref q_15, .ref q_17, .int 10, .int 100, .int 50, .int 0, .int 0])), (q_1, .inr (5, [.int 0, .ref (E 0), .int 0])), (q_3, .inr (5, [.int 0, .ref (E 0), .int 0])), (q_5, .inr (5, [.int 0, .ref (E 0), .int 0])), (q_7, .inr (5, [.int 0, .ref (E 0), .int 0])), (q_9, .inr (5, [.int 0, .ref (E 0), .int 0])), (q_11, .inr (5, [.int 0, .ref (E 0), .int 0])), (q_13, .inr (5, [.int 0, .ref (E 0), .int 0])), (q_15, .inr (5, [.int 0, .ref (E 0), .int 0])), (q_17, .inr (5, [.int 0, .ref (E 0), .int 0]))] := hD
  have hP9 := hP.sub (ws' := [(h, .inr (20, [.ref q_1, .ref q_3, .ref q_5, .ref q_7, .ref q_9, .ref q_11, .ref q_13, .ref q_15, .ref q_17, .int 10, .int 100, .int 50, .int 0, .int 0])), (q_1, .inr (5, [.int 0, .ref (E 0), .int 0])), (q_3, .inr (5, [.int 0, .ref (E 0), .int 0])), (q_5, .inr (5, [.int 0, .ref (E 0), .int 0])), (q_7, .inr (5, [.int 0, .ref (E 0), .int 0])), (q_9, .inr (5, [.int 0, .ref (E 0), .int 0])), (q_11, .inr (5, [.int 0, .ref (E 0), .int 0])), (q_13, .inr (5, [.int 0, .ref (E 0), .int 0])), (q_15, .inr (5, [.int 0, .ref (E 0), .int 0])), (q_17, .inr (5, [.int 0, .ref (E 0), .int 0]))]) [0, 1, 2, 3, 4, 5, 6, 7, 8, 9] rfl
  have hD9 := hD.sub (ws' := [(h, .inr (20, [.ref q_1, .ref q_3, .ref q_5, .ref q_7, .ref q_9, .ref q_11, .ref q_13, .ref q_15, .ref q_17, .int 10, .int 100, .int 50, .int 0, .int 0])), (q_1, .inr (5, [.int 0, .ref (E 0), .int 0])), (q_3, .inr (5, [.int 0, .ref (E 0), .int 0])), (q_5, .inr (5, [.int 0, .ref (E 0), .int 0])), (q_7, .inr (5, [.int 0, .ref (E 0), .int 0])), (q_9, .inr (5, [.int 0, .ref (E 0), .int 0])), (q_11, .inr (5, [.int 0, .ref (E 0), .int 0])), (q_13, .inr (5, [.int 0, .ref (E 0), .int 0])), (q_15, .inr (5, [.int 0, .ref (E 0), .int 0])), (q_17, .inr (5, [.int 0, .ref (E 0), .int 0]))]) [0, 1, 2, 3, 4, 5, 6, 7, 8, 9] (by decide) rfl
  have hK9 := hK.sub (tys' := []) [] rfl
  refine W.widen (k := 9) (n := 27) (Nat.le_of_ble_eq_true rfl) (Nat.le_of_ble_eq_true rfl) ?_
  exact W.vret hx hb hr (fun t ht hW => ⟨⟨(), rfl, trivial, ⟨q_1, q_3, q_5, q_7, q_9, q_11, q_13, q_15, q_17, pst_of hP9 hD9 hK9 ht hW⟩⟩, hS.F ht⟩) hS.2.2 dX14_init_131

set_option maxHeartbeats 4000000 in
set_option maxRecDepth 100000 in
theorem c_rs_alive (l : Launch) (dC : Nat → ClassId) (dI : Nat → Nat → Nat) (E : Nat → Nat) (h : Nat) (l0 : Nat) (l1 : Nat) (l2 : Nat) (l3 : Nat) (l4 : Nat) (l5 : Nat) (l6 : Nat) (l7 : Nat) (l8 : Nat) (pn : Int32) (bt : Int32) (wt : Int32) (mi : Int32) (m5 : Int32) (d5 : Nat) (sz : Nat) : Met l yX14_alive wsX14_alive ({ frames := 3, cells := 1, slots := 4, locals := 53 }) (va_Pc [.ref h] (pre dC dI E [(h, .inr (20, [.ref l0, .ref l1, .ref l2, .ref l3, .ref l4, .ref l5, .ref l6, .ref l7, .ref l8, .int pn, .int bt, .int wt, .int mi, .int 0])), (l5, .inr (5, [.int m5, .ref d5, .int 0]))] [] sz)) (va_Qi (fun (r : Int32) (_ : Unit) => r = 0) (fun _ t => pst dC dI (va_A [(h, .inr (20, [.ref l0, .ref l1, .ref l2, .ref l3, .ref l4, .ref l5, .ref l6, .ref l7, .ref l8, .int pn, .int bt, .int wt, .int mi, .int 0])), (l5, .inr (5, [.int m5, .ref d5, .int 0]))] sz) [(h, .inr (20, [.ref l0, .ref l1, .ref l2, .ref l3, .ref l4, .ref l5, .ref l6, .ref l7, .ref l8, .int pn, .int bt, .int wt, .int mi, .int 0])), (l5, .inr (5, [.int m5, .ref d5, .int 0]))] [] t) (va_A [(h, .inr (20, [.ref l0, .ref l1, .ref l2, .ref l3, .ref l4, .ref l5, .ref l6, .ref l7, .ref l8, .int pn, .int bt, .int wt, .int mi, .int 0])), (l5, .inr (5, [.int m5, .ref d5, .int 0]))] sz)) 1 4 (va_A [(h, .inr (20, [.ref l0, .ref l1, .ref l2, .ref l3, .ref l4, .ref l5, .ref l6, .ref l7, .ref l8, .int pn, .int bt, .int wt, .int mi, .int 0])), (l5, .inr (5, [.int m5, .ref d5, .int 0]))] sz) := by
  refine Met.ofW (cc := cX14_alive) (maxL := 4) (ret := (some .int)) (by decide) rfl ?_
  intro p e s m args below meth c s₁ B hml hv
  obtain ⟨rfl, hsz, hP, hK, hD0, hE, hZ0⟩ := hv
  have hx := B.exec
  have hb := B.bytes
  have hr := B.returns
  have hts := atoms_spec (ws := wsX14_alive) B.pre
  have hown : s.vm.findClass RX14 = some m.cls := findClass_of_methodNamed B.named
  have hlocks := B.notSynchronized
  subst hsz
  have hD := hD0.self (sz := s.heap.size)
  generalize hAe : va_A [(h, .inr (20, [.ref l0, .ref l1, .ref l2, .ref l3, .ref l4, .ref l5, .ref l6, .ref l7, .ref l8, .int pn, .int bt, .int wt, .int mi, .int 0])), (l5, .inr (5, [.int m5, .ref d5, .int 0]))] s.heap.size = A at hD hZ0 ⊢
  have hZ := hZ0
  have hA : ∀ q : Nat, s.heap.size ≤ q → A q := fun q h => by rw [← hAe]; exact Or.inr h
  have hS : va_S A s.heap s.heap [] := va_S.rf
  have hP : va_P (dC, dI) vwCl [(h, .inr (20, [.ref l0, .ref l1, .ref l2, .ref l3, .ref l4, .ref l5, .ref l6, .ref l7, .ref l8, .int pn, .int bt, .int wt, .int mi, .int 0])), (l5, .inr (5, [.int m5, .ref d5, .int 0]))] s.heap := hP
  have hl := lv_entry ([.ref h]) (n := 4) (Nat.le_of_ble_eq_true rfl)
  rw [lg_entry_eq]
  generalize (lg_sl ([.ref h]) ++ List.replicate (4 - (lg_sl ([.ref h])).length) Slot.unset).toArray = ls at hl ⊢
  have hl : lv_has ls 4 [(0, .ref h)] := hl
  refine lv_iconst (v := 0) hx hb dX14_alive_0 (by decide) ?_
  refine lv_istore_n (lv' := [(1, .int 0), (0, .ref h)]) hx hb dX14_alive_1 rfl hl (by decide) rfl (fun ls hl => ?_)
  refine lv_aload_n hx hb dX14_alive_2 rfl (lv_at hl 1 rfl) ?_
  refine va_get (D := (dC, dI)) (ci := 20) (v := .ref l5) (C := RX14) (T := TX14) (N := 14) hx hb hts (by decide +kernel) hown hK hP 0 rfl rfl 5 (by decide) (hts (.fieldLink RX14 30 "OrbitdockModel$Station" "people" "Ljava/util/List;") (by decide +kernel)) (fun _ h9 => h9) rfl dX14_alive_3 ?_
  have hPc := hP.sub (ws' := [(l5, .inr (5, [.int m5, .ref d5, .int 0]))]) [1] rfl
  have hDc := hD.sub (ws' := [(l5, .inr (5, [.int m5, .ref d5, .int 0]))]) [1] (by decide) rfl
  have hKc := hK.sub (tys' := []) [] rfl
  have hFc := va_free (wc := [(l5, .inr (5, [.int m5, .ref d5, .int 0]))]) hD hS hA [1] rfl
  refine va_callFr (va_runF (As := []) (rest := []) (hK.1 5 _ rfl).2 ⟨hx, hb, hml, hown, hts⟩ (c_al_iterator l dC dI E l5 d5 m5 0 s.heap.size) (va_cwF 0 hts gX14_alive_Jx4a65c_iterator_32c93_f66Jx4a65c rfl rfl rfl hE.1.2.2.1 (by decide +kernel) ⟨(Nat.le_of_ble_eq_true rfl), (Nat.le_of_ble_eq_true rfl)⟩) ⟨pre_blind, va_recv hKc hPc (ci := 5) (q0 := 0) rfl rfl, pre_call hPc hDc hKc hFc hE hZ hS⟩ rfl rfl hl.1 rfl (lv_room (Nat.le_of_ble_eq_true rfl)) dX14_alive_6 ⟨(Nat.le_of_ble_eq_true rfl), (Nat.le_of_ble_eq_true rfl)⟩) hS (fun q _ h => hFc q h) hFc (fun u q_1 t H1 locs1 ht hvm hw hB hz1 hk1 hS => ?_)
  try dsimp only at hB
  obtain ⟨hP, hD, hK⟩ := pst_join (wc := [(l5, .inr (5, [.int m5, .ref d5, .int 0]))]) (wr := [(h, .inr (20, [.ref l0, .ref l1, .ref l2, .ref l3, .ref l4, .ref l5, .ref l6, .ref l7, .ref l8, .int pn, .int bt, .int wt, .int mi, .int 0]))]) (w1 := [(q_1, .inr (4, [.int 0, .int (-1), .int m5, .ref l5])), (l5, .inr (5, [.int m5, .ref d5, .int 0]))]) (tr := []) (t1 := []) hP hD hK [1] [0] [] rfl rfl rfl (by decide) (by decide) hk1 hFc ht hvm hB
  generalize H1 = H at hP hS ⊢
  have hP : va_P (dC, dI) vwCl [(h, .inr (20, [.ref l0, .ref l1, .ref l2, .ref l3, .ref l4, .ref l5, .ref l6, .ref l7, .ref l8, .int pn, .int bt, .int wt, .int mi, .int 0])), (q_1, .inr (4, [.int 0, .int (-1), .int m5, .ref l5])), (l5, .inr (5, [.int m5, .ref d5, .int 0]))] H := hP
  have hD : va_D A [(h, .inr (20, [.ref l0, .ref l1, .ref l2, .ref l3, .ref l4, .ref l5, .ref l6, .ref l7, .ref l8, .int pn, .int bt, .int wt, .int mi, .int 0])), (q_1, .inr (4, [.int 0, .int (-1), .int m5, .ref l5])), (l5, .inr (5, [.int m5, .ref d5, .int 0]))] := hD
  have hK : va_K (dC, dI) vwCl [] s := hK
  refine W.widen (k := 1) (n := 4) (Nat.le_of_ble_eq_true rfl) (Nat.le_of_ble_eq_true rfl) ?_
  refine lv_astore_n (lv' := [(2, .ref q_1), (1, .int 0), (0, .ref h)]) hx hb dX14_alive_11 rfl hl (by decide) rfl (fun ls hl => ?_)
  refine lv_aload_n hx hb dX14_alive_12 rfl (lv_at hl 0 rfl) ?_
  have hPc := hP.sub (ws' := [(q_1, .inr (4, [.int 0, .int (-1), .int m5, .ref l5])), (l5, .inr (5, [.int m5, .ref d5, .int 0]))]) [1, 2] rfl
  have hDc := hD.sub (ws' := [(q_1, .inr (4, [.int 0, .int (-1), .int m5, .ref l5])), (l5, .inr (5, [.int m5, .ref d5, .int 0]))]) [1, 2] (by decide) rfl
  have hKc := hK.sub (tys' := []) [] rfl
  have hFc := va_free (wc := [(q_1, .inr (4, [.int 0, .int (-1), .int m5, .ref l5])), (l5, .inr (5, [.int m5, .ref d5, .int 0]))]) hD hS hA [1, 2] rfl
  refine va_callFi (va_runF (As := []) (rest := []) (hK.1 4 _ rfl).2 ⟨hx, hb, hml, hown, hts⟩ (c_itr_hasNext l dC dI E q_1 l5 d5 m5 H.size) (va_cwF 0 hts gX14_alive_Jx35411_hasNext_aae02_f70Jx35411 rfl rfl rfl hE.1.2.2.2.2.2.2 (by decide +kernel) ⟨(Nat.le_of_ble_eq_true rfl), (Nat.le_of_ble_eq_true rfl)⟩) ⟨pre_blind, va_recv hKc hPc (ci := 4) (q0 := 0) rfl rfl, pre_call hPc hDc hKc hFc hE hZ hS⟩ rfl rfl hl.1 rfl (lv_room (Nat.le_of_ble_eq_true rfl)) dX14_alive_13 ⟨(Nat.le_of_ble_eq_true rfl), (Nat.le_of_ble_eq_true rfl)⟩) hS (fun q _ h => hFc q h) hFc (fun r u t H1 locs1 ht hvm hw hB hz1 hk1 hS => ?_)
  have hw9 : r = 0 := hw
  rw [hw9]
  obtain ⟨hP, hD, hK⟩ := pst_join (wc := [(q_1, .inr (4, [.int 0, .int (-1), .int m5, .ref l5])), (l5, .inr (5, [.int m5, .ref d5, .int 0]))]) (wr := [(h, .inr (20, [.ref l0, .ref l1, .ref l2, .ref l3, .ref l4, .ref l5, .ref l6, .ref l7, .ref l8, .int pn, .int bt, .int wt, .int mi, .int 0]))]) (w1 := [(l5, .inr (5, [.int m5, .ref d5, .int 0]))]) (tr := []) (t1 := []) hP hD hK [1, 2] [0] [] rfl rfl rfl (by decide) (by decide) hk1 hFc ht hvm hB
  generalize H1 = H at hP hS ⊢
  have hP : va_P (dC, dI) vwCl [(h, .inr (20, [.ref l0, .ref l1, .ref l2, .ref l3, .ref l4, .ref l5, .ref l6, .ref l7, .ref l8, .int pn, .int bt, .int wt, .int mi, .int 0])), (l5, .inr (5, [.int m5, .ref d5, .int 0]))] H := hP
  have hD : va_D A [(h, .inr (20, [.ref l0, .ref l1, .ref l2, .ref l3, .ref l4, .ref l5, .ref l6, .ref l7, .ref l8, .int pn, .int bt, .int wt, .int mi, .int 0])), (l5, .inr (5, [.int m5, .ref d5, .int 0]))] := hD
  have hK : va_K (dC, dI) vwCl [] s := hK
  refine W.widen (k := 1) (n := 4) (Nat.le_of_ble_eq_true rfl) (Nat.le_of_ble_eq_true rfl) ?_
  refine lv_if_eq (tgt := 50) hx hb dX14_alive_18 (by decide) (fun _ => ?_) (fun c9 => absurd (by decide) c9)
  refine lv_iload_n hx hb dX14_alive_50 rfl (lv_at hl 1 rfl) ?_
  have hP9 := hP.sub (ws' := [(h, .inr (20, [.ref l0, .ref l1, .ref l2, .ref l3, .ref l4, .ref l5, .ref l6, .ref l7, .ref l8, .int pn, .int bt, .int wt, .int mi, .int 0])), (l5, .inr (5, [.int m5, .ref d5, .int 0]))]) [0, 1] rfl
  have hD9 := hD.sub (ws' := [(h, .inr (20, [.ref l0, .ref l1, .ref l2, .ref l3, .ref l4, .ref l5, .ref l6, .ref l7, .ref l8, .int pn, .int bt, .int wt, .int mi, .int 0])), (l5, .inr (5, [.int m5, .ref d5, .int 0]))]) [0, 1] (by decide) rfl
  have hK9 := hK.sub (tys' := []) [] rfl
  refine W.widen (k := 1) (n := 4) (Nat.le_of_ble_eq_true rfl) (Nat.le_of_ble_eq_true rfl) ?_
  exact W.iret (v := 0) hx hb hr (fun t ht hW => ⟨⟨0, (), rfl, rfl, pst_of hP9 hD9 hK9 ht hW⟩, hS.F ht⟩) hS.2.2 dX14_alive_51

set_option maxHeartbeats 4000000 in
set_option maxRecDepth 100000 in
theorem c_rs_commands (l : Launch) (dC : Nat → ClassId) (dI : Nat → Nat → Nat) (E : Nat → Nat) (h : Nat) (l0 : Nat) (l1 : Nat) (l2 : Nat) (l3 : Nat) (l4 : Nat) (l5 : Nat) (l6 : Nat) (l7 : Nat) (l8 : Nat) (pn : Int32) (bt : Int32) (wt : Int32) (mi : Int32) (m7 : Int32) (d7 : Nat) (sz : Nat) : Met l yX14_commands wsX14_commands ({ frames := 1, cells := 0, slots := 0, locals := 20 }) (va_Pc [.ref h] (pre dC dI E [(h, .inr (20, [.ref l0, .ref l1, .ref l2, .ref l3, .ref l4, .ref l5, .ref l6, .ref l7, .ref l8, .int pn, .int bt, .int wt, .int mi, .int 0])), (l7, .inr (5, [.int m7, .ref d7, .int 0]))] [] sz)) (va_Qv (fun _ : Unit => True) (fun _ t => pst dC dI (va_A [(h, .inr (20, [.ref l0, .ref l1, .ref l2, .ref l3, .ref l4, .ref l5, .ref l6, .ref l7, .ref l8, .int pn, .int bt, .int wt, .int mi, .int 0])), (l7, .inr (5, [.int m7, .ref d7, .int 0]))] sz) [(h, .inr (20, [.ref l0, .ref l1, .ref l2, .ref l3, .ref l4, .ref l5, .ref l6, .ref l7, .ref l8, .int pn, .int bt, .int wt, .int mi, .int 0])), (l7, .inr (5, [.int m7, .ref d7, .int 0]))] [] t) (va_A [(h, .inr (20, [.ref l0, .ref l1, .ref l2, .ref l3, .ref l4, .ref l5, .ref l6, .ref l7, .ref l8, .int pn, .int bt, .int wt, .int mi, .int 0])), (l7, .inr (5, [.int m7, .ref d7, .int 0]))] sz)) 0 0 (va_A [(h, .inr (20, [.ref l0, .ref l1, .ref l2, .ref l3, .ref l4, .ref l5, .ref l6, .ref l7, .ref l8, .int pn, .int bt, .int wt, .int mi, .int 0])), (l7, .inr (5, [.int m7, .ref d7, .int 0]))] sz) := by
  refine Met.ofW (cc := cX14_commands) (maxL := 5) (ret := none) (by decide) rfl ?_
  intro p e s m args below meth c s₁ B hml hv
  obtain ⟨rfl, hsz, hP, hK, hD0, hE, hZ0⟩ := hv
  have hx := B.exec
  have hb := B.bytes
  have hr := B.returns
  have hts := atoms_spec (ws := wsX14_commands) B.pre
  have hown : s.vm.findClass RX14 = some m.cls := findClass_of_methodNamed B.named
  have hlocks := B.notSynchronized
  subst hsz
  have hD := hD0.self (sz := s.heap.size)
  generalize hAe : va_A [(h, .inr (20, [.ref l0, .ref l1, .ref l2, .ref l3, .ref l4, .ref l5, .ref l6, .ref l7, .ref l8, .int pn, .int bt, .int wt, .int mi, .int 0])), (l7, .inr (5, [.int m7, .ref d7, .int 0]))] s.heap.size = A at hD hZ0 ⊢
  have hZ := hZ0
  have hA : ∀ q : Nat, s.heap.size ≤ q → A q := fun q h => by rw [← hAe]; exact Or.inr h
  have hS : va_S A s.heap s.heap [] := va_S.rf
  have hP : va_P (dC, dI) vwCl [(h, .inr (20, [.ref l0, .ref l1, .ref l2, .ref l3, .ref l4, .ref l5, .ref l6, .ref l7, .ref l8, .int pn, .int bt, .int wt, .int mi, .int 0])), (l7, .inr (5, [.int m7, .ref d7, .int 0]))] s.heap := hP
  have hl := lv_entry ([.ref h]) (n := 5) (Nat.le_of_ble_eq_true rfl)
  rw [lg_entry_eq]
  generalize (lg_sl ([.ref h]) ++ List.replicate (5 - (lg_sl ([.ref h])).length) Slot.unset).toArray = ls at hl ⊢
  have hl : lv_has ls 5 [(0, .ref h)] := hl
  refine lv_aload_n hx hb dX14_commands_0 rfl (lv_at hl 0 rfl) ?_
  refine va_get (D := (dC, dI)) (ci := 20) (v := .int mi) (C := RX14) (T := TX14) (N := 14) hx hb hts (by decide +kernel) hown hK hP 0 rfl rfl 12 (by decide) (hts (.fieldLink RX14 52 "OrbitdockModel$Station" "minute" "I") (by decide +kernel)) (fun _ h9 => h9) rfl dX14_commands_1 ?_
  refine lv_bipush (v := 90) hx hb dX14_commands_4 (by decide) ?_
  refine lv_irem hx hb dX14_commands_6 (by decide) ?_
  refine lv_bipush (v := 10) hx hb dX14_commands_7 (by decide) ?_
  refine lv_icmp_lt (tgt := 28) hx hb dX14_commands_9 (by decide) (fun c_1 => ?_) (fun c_1 => ?_)
  · refine lv_iconst (v := 0) hx hb dX14_commands_28 (by decide) ?_
    refine lv_istore_n (lv' := [(1, .int 0), (0, .ref h)]) hx hb dX14_commands_29 rfl hl (by decide) rfl (fun ls hl => ?_)
    refine lv_iconst (v := 0) hx hb dX14_commands_30 (by decide) ?_
    refine lv_istore_n (lv' := [(2, .int 0), (1, .int 0), (0, .ref h)]) hx hb dX14_commands_31 rfl hl (by decide) rfl (fun ls hl => ?_)
    refine lv_iload_n hx hb dX14_commands_32 rfl (lv_at hl 0 rfl) ?_
    refine lv_aload_n hx hb dX14_commands_33 rfl (lv_at hl 2 rfl) ?_
    refine va_get (D := (dC, dI)) (ci := 20) (v := .ref l7) (C := RX14) (T := TX14) (N := 14) hx hb hts (by decide +kernel) hown hK hP 0 rfl rfl 7 (by decide) (hts (.fieldLink RX14 36 "OrbitdockModel$Station" "commands" "Ljava/util/List;") (by decide +kernel)) (fun _ h9 => h9) rfl dX14_commands_34 ?_
    have hPc := hP.sub (ws' := [(l7, .inr (5, [.int m7, .ref d7, .int 0]))]) [1] rfl
    have hDc := hD.sub (ws' := [(l7, .inr (5, [.int m7, .ref d7, .int 0]))]) [1] (by decide) rfl
    have hKc := hK.sub (tys' := []) [] rfl
    have hFc := va_free (wc := [(l7, .inr (5, [.int m7, .ref d7, .int 0]))]) hD hS hA [1] rfl
    refine va_callFi (va_runF (As := []) (rest := [.int 0]) (hK.1 5 _ rfl).2 ⟨hx, hb, hml, hown, hts⟩ (c_al_size l dC dI E l7 d7 m7 0 s.heap.size) (va_cwF 0 hts gX14_commands_Jx4a65c_size_8abf5_f162Jx4a65c rfl rfl rfl hE.1.1 (by decide +kernel) ⟨(Nat.le_of_ble_eq_true rfl), (Nat.le_of_ble_eq_true rfl)⟩) ⟨pre_blind, va_recv hKc hPc (ci := 5) (q0 := 0) rfl rfl, pre_call hPc hDc hKc hFc hE hZ hS⟩ rfl rfl hl.1 rfl (lv_room (Nat.le_of_ble_eq_true rfl)) dX14_commands_37 ⟨(Nat.le_of_ble_eq_true rfl), (Nat.le_of_ble_eq_true rfl)⟩) hS (fun q _ h => hFc q h) hFc (fun r u t H1 locs1 ht hvm hw hB hz1 hk1 hS => ?_)
    have hw9 : r = 0 := hw
    rw [hw9]
    obtain ⟨hP, hD, hK⟩ := pst_join (wc := [(l7, .inr (5, [.int m7, .ref d7, .int 0]))]) (wr := [(h, .inr (20, [.ref l0, .ref l1, .ref l2, .ref l3, .ref l4, .ref l5, .ref l6, .ref l7, .ref l8, .int pn, .int bt, .int wt, .int mi, .int 0]))]) (w1 := [(l7, .inr (5, [.int m7, .ref d7, .int 0]))]) (tr := []) (t1 := []) hP hD hK [1] [0] [] rfl rfl rfl (by decide) (by decide) hk1 hFc ht hvm hB
    generalize H1 = H at hP hS ⊢
    have hP : va_P (dC, dI) vwCl [(h, .inr (20, [.ref l0, .ref l1, .ref l2, .ref l3, .ref l4, .ref l5, .ref l6, .ref l7, .ref l8, .int pn, .int bt, .int wt, .int mi, .int 0])), (l7, .inr (5, [.int m7, .ref d7, .int 0]))] H := hP
    have hD : va_D A [(h, .inr (20, [.ref l0, .ref l1, .ref l2, .ref l3, .ref l4, .ref l5, .ref l6, .ref l7, .ref l8, .int pn, .int bt, .int wt, .int mi, .int 0])), (l7, .inr (5, [.int m7, .ref d7, .int 0]))] := hD
    have hK : va_K (dC, dI) vwCl [] s := hK
    refine W.widen (k := 0) (n := 0) (Nat.le_of_ble_eq_true rfl) (Nat.le_of_ble_eq_true rfl) ?_
    refine lv_icmp_ge (tgt := 160) hx hb dX14_commands_42 (by decide) (fun _ => ?_) (fun c9 => absurd (by decide) c9)
    have hP9 := hP.sub (ws' := [(h, .inr (20, [.ref l0, .ref l1, .ref l2, .ref l3, .ref l4, .ref l5, .ref l6, .ref l7, .ref l8, .int pn, .int bt, .int wt, .int mi, .int 0])), (l7, .inr (5, [.int m7, .ref d7, .int 0]))]) [0, 1] rfl
    have hD9 := hD.sub (ws' := [(h, .inr (20, [.ref l0, .ref l1, .ref l2, .ref l3, .ref l4, .ref l5, .ref l6, .ref l7, .ref l8, .int pn, .int bt, .int wt, .int mi, .int 0])), (l7, .inr (5, [.int m7, .ref d7, .int 0]))]) [0, 1] (by decide) rfl
    have hK9 := hK.sub (tys' := []) [] rfl
    refine W.widen (k := 0) (n := 0) (Nat.le_of_ble_eq_true rfl) (Nat.le_of_ble_eq_true rfl) ?_
    exact W.vret hx hb hr (fun t ht hW => ⟨⟨(), rfl, trivial, pst_of hP9 hD9 hK9 ht hW⟩, hS.F ht⟩) hS.2.2 dX14_commands_160
  · refine lv_aload_n hx hb dX14_commands_12 rfl (lv_at hl 0 rfl) ?_
    refine va_get (D := (dC, dI)) (ci := 20) (v := .int mi) (C := RX14) (T := TX14) (N := 14) hx hb hts (by decide +kernel) hown hK hP 0 rfl rfl 12 (by decide) (hts (.fieldLink RX14 52 "OrbitdockModel$Station" "minute" "I") (by decide +kernel)) (fun _ h9 => h9) rfl dX14_commands_13 ?_
    refine lv_bipush (v := 90) hx hb dX14_commands_16 (by decide) ?_
    refine lv_irem hx hb dX14_commands_18 (by decide) ?_
    refine lv_bipush (v := 50) hx hb dX14_commands_19 (by decide) ?_
    refine lv_icmp_ge (tgt := 28) hx hb dX14_commands_21 (by decide) (fun c_4 => ?_) (fun c_4 => ?_)
    · refine lv_iconst (v := 0) hx hb dX14_commands_28 (by decide) ?_
      refine lv_istore_n (lv' := [(1, .int 0), (0, .ref h)]) hx hb dX14_commands_29 rfl hl (by decide) rfl (fun ls hl => ?_)
      refine lv_iconst (v := 0) hx hb dX14_commands_30 (by decide) ?_
      refine lv_istore_n (lv' := [(2, .int 0), (1, .int 0), (0, .ref h)]) hx hb dX14_commands_31 rfl hl (by decide) rfl (fun ls hl => ?_)
      refine lv_iload_n hx hb dX14_commands_32 rfl (lv_at hl 0 rfl) ?_
      refine lv_aload_n hx hb dX14_commands_33 rfl (lv_at hl 2 rfl) ?_
      refine va_get (D := (dC, dI)) (ci := 20) (v := .ref l7) (C := RX14) (T := TX14) (N := 14) hx hb hts (by decide +kernel) hown hK hP 0 rfl rfl 7 (by decide) (hts (.fieldLink RX14 36 "OrbitdockModel$Station" "commands" "Ljava/util/List;") (by decide +kernel)) (fun _ h9 => h9) rfl dX14_commands_34 ?_
      have hPc := hP.sub (ws' := [(l7, .inr (5, [.int m7, .ref d7, .int 0]))]) [1] rfl
      have hDc := hD.sub (ws' := [(l7, .inr (5, [.int m7, .ref d7, .int 0]))]) [1] (by decide) rfl
      have hKc := hK.sub (tys' := []) [] rfl
      have hFc := va_free (wc := [(l7, .inr (5, [.int m7, .ref d7, .int 0]))]) hD hS hA [1] rfl
      refine va_callFi (va_runF (As := []) (rest := [.int 0]) (hK.1 5 _ rfl).2 ⟨hx, hb, hml, hown, hts⟩ (c_al_size l dC dI E l7 d7 m7 0 s.heap.size) (va_cwF 0 hts gX14_commands_Jx4a65c_size_8abf5_f162Jx4a65c rfl rfl rfl hE.1.1 (by decide +kernel) ⟨(Nat.le_of_ble_eq_true rfl), (Nat.le_of_ble_eq_true rfl)⟩) ⟨pre_blind, va_recv hKc hPc (ci := 5) (q0 := 0) rfl rfl, pre_call hPc hDc hKc hFc hE hZ hS⟩ rfl rfl hl.1 rfl (lv_room (Nat.le_of_ble_eq_true rfl)) dX14_commands_37 ⟨(Nat.le_of_ble_eq_true rfl), (Nat.le_of_ble_eq_true rfl)⟩) hS (fun q _ h => hFc q h) hFc (fun r u t H1 locs1 ht hvm hw hB hz1 hk1 hS => ?_)
      have hw9 : r = 0 := hw
      rw [hw9]
      obtain ⟨hP, hD, hK⟩ := pst_join (wc := [(l7, .inr (5, [.int m7, .ref d7, .int 0]))]) (wr := [(h, .inr (20, [.ref l0, .ref l1, .ref l2, .ref l3, .ref l4, .ref l5, .ref l6, .ref l7, .ref l8, .int pn, .int bt, .int wt, .int mi, .int 0]))]) (w1 := [(l7, .inr (5, [.int m7, .ref d7, .int 0]))]) (tr := []) (t1 := []) hP hD hK [1] [0] [] rfl rfl rfl (by decide) (by decide) hk1 hFc ht hvm hB
      generalize H1 = H at hP hS ⊢
      have hP : va_P (dC, dI) vwCl [(h, .inr (20, [.ref l0, .ref l1, .ref l2, .ref l3, .ref l4, .ref l5, .ref l6, .ref l7, .ref l8, .int pn, .int bt, .int wt, .int mi, .int 0])), (l7, .inr (5, [.int m7, .ref d7, .int 0]))] H := hP
      have hD : va_D A [(h, .inr (20, [.ref l0, .ref l1, .ref l2, .ref l3, .ref l4, .ref l5, .ref l6, .ref l7, .ref l8, .int pn, .int bt, .int wt, .int mi, .int 0])), (l7, .inr (5, [.int m7, .ref d7, .int 0]))] := hD
      have hK : va_K (dC, dI) vwCl [] s := hK
      refine W.widen (k := 0) (n := 0) (Nat.le_of_ble_eq_true rfl) (Nat.le_of_ble_eq_true rfl) ?_
      refine lv_icmp_ge (tgt := 160) hx hb dX14_commands_42 (by decide) (fun _ => ?_) (fun c9 => absurd (by decide) c9)
      have hP9 := hP.sub (ws' := [(h, .inr (20, [.ref l0, .ref l1, .ref l2, .ref l3, .ref l4, .ref l5, .ref l6, .ref l7, .ref l8, .int pn, .int bt, .int wt, .int mi, .int 0])), (l7, .inr (5, [.int m7, .ref d7, .int 0]))]) [0, 1] rfl
      have hD9 := hD.sub (ws' := [(h, .inr (20, [.ref l0, .ref l1, .ref l2, .ref l3, .ref l4, .ref l5, .ref l6, .ref l7, .ref l8, .int pn, .int bt, .int wt, .int mi, .int 0])), (l7, .inr (5, [.int m7, .ref d7, .int 0]))]) [0, 1] (by decide) rfl
      have hK9 := hK.sub (tys' := []) [] rfl
      refine W.widen (k := 0) (n := 0) (Nat.le_of_ble_eq_true rfl) (Nat.le_of_ble_eq_true rfl) ?_
      exact W.vret hx hb hr (fun t ht hW => ⟨⟨(), rfl, trivial, pst_of hP9 hD9 hK9 ht hW⟩, hS.F ht⟩) hS.2.2 dX14_commands_160
    · refine lv_iconst (v := 1) hx hb dX14_commands_24 (by decide) ?_
      refine lv_goto (tgt := 29) hx hb dX14_commands_25 (by decide) ?_
      refine lv_istore_n (lv' := [(1, .int 1), (0, .ref h)]) hx hb dX14_commands_29 rfl hl (by decide) rfl (fun ls hl => ?_)
      refine lv_iconst (v := 0) hx hb dX14_commands_30 (by decide) ?_
      refine lv_istore_n (lv' := [(2, .int 0), (1, .int 1), (0, .ref h)]) hx hb dX14_commands_31 rfl hl (by decide) rfl (fun ls hl => ?_)
      refine lv_iload_n hx hb dX14_commands_32 rfl (lv_at hl 0 rfl) ?_
      refine lv_aload_n hx hb dX14_commands_33 rfl (lv_at hl 2 rfl) ?_
      refine va_get (D := (dC, dI)) (ci := 20) (v := .ref l7) (C := RX14) (T := TX14) (N := 14) hx hb hts (by decide +kernel) hown hK hP 0 rfl rfl 7 (by decide) (hts (.fieldLink RX14 36 "OrbitdockModel$Station" "commands" "Ljava/util/List;") (by decide +kernel)) (fun _ h9 => h9) rfl dX14_commands_34 ?_
      have hPc := hP.sub (ws' := [(l7, .inr (5, [.int m7, .ref d7, .int 0]))]) [1] rfl
      have hDc := hD.sub (ws' := [(l7, .inr (5, [.int m7, .ref d7, .int 0]))]) [1] (by decide) rfl
      have hKc := hK.sub (tys' := []) [] rfl
      have hFc := va_free (wc := [(l7, .inr (5, [.int m7, .ref d7, .int 0]))]) hD hS hA [1] rfl
      refine va_callFi (va_runF (As := []) (rest := [.int 0]) (hK.1 5 _ rfl).2 ⟨hx, hb, hml, hown, hts⟩ (c_al_size l dC dI E l7 d7 m7 0 s.heap.size) (va_cwF 0 hts gX14_commands_Jx4a65c_size_8abf5_f162Jx4a65c rfl rfl rfl hE.1.1 (by decide +kernel) ⟨(Nat.le_of_ble_eq_true rfl), (Nat.le_of_ble_eq_true rfl)⟩) ⟨pre_blind, va_recv hKc hPc (ci := 5) (q0 := 0) rfl rfl, pre_call hPc hDc hKc hFc hE hZ hS⟩ rfl rfl hl.1 rfl (lv_room (Nat.le_of_ble_eq_true rfl)) dX14_commands_37 ⟨(Nat.le_of_ble_eq_true rfl), (Nat.le_of_ble_eq_true rfl)⟩) hS (fun q _ h => hFc q h) hFc (fun r u t H1 locs1 ht hvm hw hB hz1 hk1 hS => ?_)
      have hw9 : r = 0 := hw
      rw [hw9]
      obtain ⟨hP, hD, hK⟩ := pst_join (wc := [(l7, .inr (5, [.int m7, .ref d7, .int 0]))]) (wr := [(h, .inr (20, [.ref l0, .ref l1, .ref l2, .ref l3, .ref l4, .ref l5, .ref l6, .ref l7, .ref l8, .int pn, .int bt, .int wt, .int mi, .int 0]))]) (w1 := [(l7, .inr (5, [.int m7, .ref d7, .int 0]))]) (tr := []) (t1 := []) hP hD hK [1] [0] [] rfl rfl rfl (by decide) (by decide) hk1 hFc ht hvm hB
      generalize H1 = H at hP hS ⊢
      have hP : va_P (dC, dI) vwCl [(h, .inr (20, [.ref l0, .ref l1, .ref l2, .ref l3, .ref l4, .ref l5, .ref l6, .ref l7, .ref l8, .int pn, .int bt, .int wt, .int mi, .int 0])), (l7, .inr (5, [.int m7, .ref d7, .int 0]))] H := hP
      have hD : va_D A [(h, .inr (20, [.ref l0, .ref l1, .ref l2, .ref l3, .ref l4, .ref l5, .ref l6, .ref l7, .ref l8, .int pn, .int bt, .int wt, .int mi, .int 0])), (l7, .inr (5, [.int m7, .ref d7, .int 0]))] := hD
      have hK : va_K (dC, dI) vwCl [] s := hK
      refine W.widen (k := 0) (n := 0) (Nat.le_of_ble_eq_true rfl) (Nat.le_of_ble_eq_true rfl) ?_
      refine lv_icmp_ge (tgt := 160) hx hb dX14_commands_42 (by decide) (fun _ => ?_) (fun c9 => absurd (by decide) c9)
      have hP9 := hP.sub (ws' := [(h, .inr (20, [.ref l0, .ref l1, .ref l2, .ref l3, .ref l4, .ref l5, .ref l6, .ref l7, .ref l8, .int pn, .int bt, .int wt, .int mi, .int 0])), (l7, .inr (5, [.int m7, .ref d7, .int 0]))]) [0, 1] rfl
      have hD9 := hD.sub (ws' := [(h, .inr (20, [.ref l0, .ref l1, .ref l2, .ref l3, .ref l4, .ref l5, .ref l6, .ref l7, .ref l8, .int pn, .int bt, .int wt, .int mi, .int 0])), (l7, .inr (5, [.int m7, .ref d7, .int 0]))]) [0, 1] (by decide) rfl
      have hK9 := hK.sub (tys' := []) [] rfl
      refine W.widen (k := 0) (n := 0) (Nat.le_of_ble_eq_true rfl) (Nat.le_of_ble_eq_true rfl) ?_
      exact W.vret hx hb hr (fun t ht hW => ⟨⟨(), rfl, trivial, pst_of hP9 hD9 hK9 ht hW⟩, hS.F ht⟩) hS.2.2 dX14_commands_160

set_option maxHeartbeats 4000000 in
set_option maxRecDepth 100000 in
theorem c_rs_ships (l : Launch) (dC : Nat → ClassId) (dI : Nat → Nat → Nat) (E : Nat → Nat) (h : Nat) (l0 : Nat) (l1 : Nat) (l2 : Nat) (l3 : Nat) (l4 : Nat) (l5 : Nat) (l6 : Nat) (l7 : Nat) (l8 : Nat) (pn : Int32) (bt : Int32) (wt : Int32) (mi : Int32) (m6 : Int32) (d6 : Nat) (sz : Nat) : Met l yX14_ships wsX14_ships ({ frames := 3, cells := 1, slots := 4, locals := 53 }) (va_Pc [.ref h] (pre dC dI E [(h, .inr (20, [.ref l0, .ref l1, .ref l2, .ref l3, .ref l4, .ref l5, .ref l6, .ref l7, .ref l8, .int pn, .int bt, .int wt, .int mi, .int 0])), (l6, .inr (5, [.int m6, .ref d6, .int 0]))] [] sz)) (va_Qv (fun _ : Unit => True) (fun _ t => pst dC dI (va_A [(h, .inr (20, [.ref l0, .ref l1, .ref l2, .ref l3, .ref l4, .ref l5, .ref l6, .ref l7, .ref l8, .int pn, .int bt, .int wt, .int mi, .int 0])), (l6, .inr (5, [.int m6, .ref d6, .int 0]))] sz) [(h, .inr (20, [.ref l0, .ref l1, .ref l2, .ref l3, .ref l4, .ref l5, .ref l6, .ref l7, .ref l8, .int pn, .int bt, .int wt, .int mi, .int 0])), (l6, .inr (5, [.int m6, .ref d6, .int 0]))] [] t) (va_A [(h, .inr (20, [.ref l0, .ref l1, .ref l2, .ref l3, .ref l4, .ref l5, .ref l6, .ref l7, .ref l8, .int pn, .int bt, .int wt, .int mi, .int 0])), (l6, .inr (5, [.int m6, .ref d6, .int 0]))] sz)) 1 4 (va_A [(h, .inr (20, [.ref l0, .ref l1, .ref l2, .ref l3, .ref l4, .ref l5, .ref l6, .ref l7, .ref l8, .int pn, .int bt, .int wt, .int mi, .int 0])), (l6, .inr (5, [.int m6, .ref d6, .int 0]))] sz) := by
  refine Met.ofW (cc := cX14_ships) (maxL := 3) (ret := none) (by decide) rfl ?_
  intro p e s m args below meth c s₁ B hml hv
  obtain ⟨rfl, hsz, hP, hK, hD0, hE, hZ0⟩ := hv
  have hx := B.exec
  have hb := B.bytes
  have hr := B.returns
  have hts := atoms_spec (ws := wsX14_ships) B.pre
  have hown : s.vm.findClass RX14 = some m.cls := findClass_of_methodNamed B.named
  have hlocks := B.notSynchronized
  subst hsz
  have hD := hD0.self (sz := s.heap.size)
  generalize hAe : va_A [(h, .inr (20, [.ref l0, .ref l1, .ref l2, .ref l3, .ref l4, .ref l5, .ref l6, .ref l7, .ref l8, .int pn, .int bt, .int wt, .int mi, .int 0])), (l6, .inr (5, [.int m6, .ref d6, .int 0]))] s.heap.size = A at hD hZ0 ⊢
  have hZ := hZ0
  have hA : ∀ q : Nat, s.heap.size ≤ q → A q := fun q h => by rw [← hAe]; exact Or.inr h
  have hS : va_S A s.heap s.heap [] := va_S.rf
  have hP : va_P (dC, dI) vwCl [(h, .inr (20, [.ref l0, .ref l1, .ref l2, .ref l3, .ref l4, .ref l5, .ref l6, .ref l7, .ref l8, .int pn, .int bt, .int wt, .int mi, .int 0])), (l6, .inr (5, [.int m6, .ref d6, .int 0]))] s.heap := hP
  have hl := lv_entry ([.ref h]) (n := 3) (Nat.le_of_ble_eq_true rfl)
  rw [lg_entry_eq]
  generalize (lg_sl ([.ref h]) ++ List.replicate (3 - (lg_sl ([.ref h])).length) Slot.unset).toArray = ls at hl ⊢
  have hl : lv_has ls 3 [(0, .ref h)] := hl
  refine lv_aload_n hx hb dX14_ships_0 rfl (lv_at hl 0 rfl) ?_
  refine va_get (D := (dC, dI)) (ci := 20) (v := .ref l6) (C := RX14) (T := TX14) (N := 14) hx hb hts (by decide +kernel) hown hK hP 0 rfl rfl 6 (by decide) (hts (.fieldLink RX14 33 "OrbitdockModel$Station" "ships" "Ljava/util/List;") (by decide +kernel)) (fun _ h9 => h9) rfl dX14_ships_1 ?_
  have hPc := hP.sub (ws' := [(l6, .inr (5, [.int m6, .ref d6, .int 0]))]) [1] rfl
  have hDc := hD.sub (ws' := [(l6, .inr (5, [.int m6, .ref d6, .int 0]))]) [1] (by decide) rfl
  have hKc := hK.sub (tys' := []) [] rfl
  have hFc := va_free (wc := [(l6, .inr (5, [.int m6, .ref d6, .int 0]))]) hD hS hA [1] rfl
  refine va_callFr (va_runF (As := []) (rest := []) (hK.1 5 _ rfl).2 ⟨hx, hb, hml, hown, hts⟩ (c_al_iterator l dC dI E l6 d6 m6 0 s.heap.size) (va_cwF 0 hts gX14_ships_Jx4a65c_iterator_32c93_f66Jx4a65c rfl rfl rfl hE.1.2.2.1 (by decide +kernel) ⟨(Nat.le_of_ble_eq_true rfl), (Nat.le_of_ble_eq_true rfl)⟩) ⟨pre_blind, va_recv hKc hPc (ci := 5) (q0 := 0) rfl rfl, pre_call hPc hDc hKc hFc hE hZ hS⟩ rfl rfl hl.1 rfl (lv_room (Nat.le_of_ble_eq_true rfl)) dX14_ships_4 ⟨(Nat.le_of_ble_eq_true rfl), (Nat.le_of_ble_eq_true rfl)⟩) hS (fun q _ h => hFc q h) hFc (fun u q_1 t H1 locs1 ht hvm hw hB hz1 hk1 hS => ?_)
  try dsimp only at hB
  obtain ⟨hP, hD, hK⟩ := pst_join (wc := [(l6, .inr (5, [.int m6, .ref d6, .int 0]))]) (wr := [(h, .inr (20, [.ref l0, .ref l1, .ref l2, .ref l3, .ref l4, .ref l5, .ref l6, .ref l7, .ref l8, .int pn, .int bt, .int wt, .int mi, .int 0]))]) (w1 := [(q_1, .inr (4, [.int 0, .int (-1), .int m6, .ref l6])), (l6, .inr (5, [.int m6, .ref d6, .int 0]))]) (tr := []) (t1 := []) hP hD hK [1] [0] [] rfl rfl rfl (by decide) (by decide) hk1 hFc ht hvm hB
  generalize H1 = H at hP hS ⊢
  have hP : va_P (dC, dI) vwCl [(h, .inr (20, [.ref l0, .ref l1, .ref l2, .ref l3, .ref l4, .ref l5, .ref l6, .ref l7, .ref l8, .int pn, .int bt, .int wt, .int mi, .int 0])), (q_1, .inr (4, [.int 0, .int (-1), .int m6, .ref l6])), (l6, .inr (5, [.int m6, .ref d6, .int 0]))] H := hP
  have hD : va_D A [(h, .inr (20, [.ref l0, .ref l1, .ref l2, .ref l3, .ref l4, .ref l5, .ref l6, .ref l7, .ref l8, .int pn, .int bt, .int wt, .int mi, .int 0])), (q_1, .inr (4, [.int 0, .int (-1), .int m6, .ref l6])), (l6, .inr (5, [.int m6, .ref d6, .int 0]))] := hD
  have hK : va_K (dC, dI) vwCl [] s := hK
  refine W.widen (k := 1) (n := 4) (Nat.le_of_ble_eq_true rfl) (Nat.le_of_ble_eq_true rfl) ?_
  refine lv_astore_n (lv' := [(1, .ref q_1), (0, .ref h)]) hx hb dX14_ships_9 rfl hl (by decide) rfl (fun ls hl => ?_)
  refine lv_aload_n hx hb dX14_ships_10 rfl (lv_at hl 0 rfl) ?_
  have hPc := hP.sub (ws' := [(q_1, .inr (4, [.int 0, .int (-1), .int m6, .ref l6])), (l6, .inr (5, [.int m6, .ref d6, .int 0]))]) [1, 2] rfl
  have hDc := hD.sub (ws' := [(q_1, .inr (4, [.int 0, .int (-1), .int m6, .ref l6])), (l6, .inr (5, [.int m6, .ref d6, .int 0]))]) [1, 2] (by decide) rfl
  have hKc := hK.sub (tys' := []) [] rfl
  have hFc := va_free (wc := [(q_1, .inr (4, [.int 0, .int (-1), .int m6, .ref l6])), (l6, .inr (5, [.int m6, .ref d6, .int 0]))]) hD hS hA [1, 2] rfl
  refine va_callFi (va_runF (As := []) (rest := []) (hK.1 4 _ rfl).2 ⟨hx, hb, hml, hown, hts⟩ (c_itr_hasNext l dC dI E q_1 l6 d6 m6 H.size) (va_cwF 0 hts gX14_ships_Jx35411_hasNext_aae02_f70Jx35411 rfl rfl rfl hE.1.2.2.2.2.2.2 (by decide +kernel) ⟨(Nat.le_of_ble_eq_true rfl), (Nat.le_of_ble_eq_true rfl)⟩) ⟨pre_blind, va_recv hKc hPc (ci := 4) (q0 := 0) rfl rfl, pre_call hPc hDc hKc hFc hE hZ hS⟩ rfl rfl hl.1 rfl (lv_room (Nat.le_of_ble_eq_true rfl)) dX14_ships_11 ⟨(Nat.le_of_ble_eq_true rfl), (Nat.le_of_ble_eq_true rfl)⟩) hS (fun q _ h => hFc q h) hFc (fun r u t H1 locs1 ht hvm hw hB hz1 hk1 hS => ?_)
  have hw9 : r = 0 := hw
  rw [hw9]
  obtain ⟨hP, hD, hK⟩ := pst_join (wc := [(q_1, .inr (4, [.int 0, .int (-1), .int m6, .ref l6])), (l6, .inr (5, [.int m6, .ref d6, .int 0]))]) (wr := [(h, .inr (20, [.ref l0, .ref l1, .ref l2, .ref l3, .ref l4, .ref l5, .ref l6, .ref l7, .ref l8, .int pn, .int bt, .int wt, .int mi, .int 0]))]) (w1 := [(l6, .inr (5, [.int m6, .ref d6, .int 0]))]) (tr := []) (t1 := []) hP hD hK [1, 2] [0] [] rfl rfl rfl (by decide) (by decide) hk1 hFc ht hvm hB
  generalize H1 = H at hP hS ⊢
  have hP : va_P (dC, dI) vwCl [(h, .inr (20, [.ref l0, .ref l1, .ref l2, .ref l3, .ref l4, .ref l5, .ref l6, .ref l7, .ref l8, .int pn, .int bt, .int wt, .int mi, .int 0])), (l6, .inr (5, [.int m6, .ref d6, .int 0]))] H := hP
  have hD : va_D A [(h, .inr (20, [.ref l0, .ref l1, .ref l2, .ref l3, .ref l4, .ref l5, .ref l6, .ref l7, .ref l8, .int pn, .int bt, .int wt, .int mi, .int 0])), (l6, .inr (5, [.int m6, .ref d6, .int 0]))] := hD
  have hK : va_K (dC, dI) vwCl [] s := hK
  refine W.widen (k := 1) (n := 4) (Nat.le_of_ble_eq_true rfl) (Nat.le_of_ble_eq_true rfl) ?_
  refine lv_if_eq (tgt := 136) hx hb dX14_ships_16 (by decide) (fun _ => ?_) (fun c9 => absurd (by decide) c9)
  have hP9 := hP.sub (ws' := [(h, .inr (20, [.ref l0, .ref l1, .ref l2, .ref l3, .ref l4, .ref l5, .ref l6, .ref l7, .ref l8, .int pn, .int bt, .int wt, .int mi, .int 0])), (l6, .inr (5, [.int m6, .ref d6, .int 0]))]) [0, 1] rfl
  have hD9 := hD.sub (ws' := [(h, .inr (20, [.ref l0, .ref l1, .ref l2, .ref l3, .ref l4, .ref l5, .ref l6, .ref l7, .ref l8, .int pn, .int bt, .int wt, .int mi, .int 0])), (l6, .inr (5, [.int m6, .ref d6, .int 0]))]) [0, 1] (by decide) rfl
  have hK9 := hK.sub (tys' := []) [] rfl
  refine W.widen (k := 1) (n := 4) (Nat.le_of_ble_eq_true rfl) (Nat.le_of_ble_eq_true rfl) ?_
  exact W.vret hx hb hr (fun t ht hW => ⟨⟨(), rfl, trivial, pst_of hP9 hD9 hK9 ht hW⟩, hS.F ht⟩) hS.2.2 dX14_ships_136

set_option maxHeartbeats 4000000 in
set_option maxRecDepth 100000 in
theorem c_rs_devices (l : Launch) (dC : Nat → ClassId) (dI : Nat → Nat → Nat) (E : Nat → Nat) (h : Nat) (l0 : Nat) (l1 : Nat) (l2 : Nat) (l3 : Nat) (l4 : Nat) (l5 : Nat) (l6 : Nat) (l7 : Nat) (l8 : Nat) (pn : Int32) (bt : Int32) (wt : Int32) (mi : Int32) (m4 : Int32) (d4 : Nat) (sz : Nat) : Met l yX14_devices wsX14_devices ({ frames := 3, cells := 1, slots := 4, locals := 53 }) (va_Pc [.ref h] (pre dC dI E [(h, .inr (20, [.ref l0, .ref l1, .ref l2, .ref l3, .ref l4, .ref l5, .ref l6, .ref l7, .ref l8, .int pn, .int bt, .int wt, .int mi, .int 0])), (l4, .inr (5, [.int m4, .ref d4, .int 0]))] [] sz)) (va_Qv (fun _ : Unit => True) (fun _ t => ∃ b2 : Int32, pst dC dI (va_A [(h, .inr (20, [.ref l0, .ref l1, .ref l2, .ref l3, .ref l4, .ref l5, .ref l6, .ref l7, .ref l8, .int pn, .int bt, .int wt, .int mi, .int 0])), (l4, .inr (5, [.int m4, .ref d4, .int 0]))] sz) [(h, .inr (20, [.ref l0, .ref l1, .ref l2, .ref l3, .ref l4, .ref l5, .ref l6, .ref l7, .ref l8, .int pn, .int b2, .int wt, .int mi, .int 0])), (l4, .inr (5, [.int m4, .ref d4, .int 0]))] [] t) (va_A [(h, .inr (20, [.ref l0, .ref l1, .ref l2, .ref l3, .ref l4, .ref l5, .ref l6, .ref l7, .ref l8, .int pn, .int bt, .int wt, .int mi, .int 0])), (l4, .inr (5, [.int m4, .ref d4, .int 0]))] sz)) 1 4 (va_A [(h, .inr (20, [.ref l0, .ref l1, .ref l2, .ref l3, .ref l4, .ref l5, .ref l6, .ref l7, .ref l8, .int pn, .int bt, .int wt, .int mi, .int 0])), (l4, .inr (5, [.int m4, .ref d4, .int 0]))] sz) := by
  refine Met.ofW (cc := cX14_devices) (maxL := 5) (ret := none) (by decide) rfl ?_
  intro p e s m args below meth c s₁ B hml hv
  obtain ⟨rfl, hsz, hP, hK, hD0, hE, hZ0⟩ := hv
  have hx := B.exec
  have hb := B.bytes
  have hr := B.returns
  have hts := atoms_spec (ws := wsX14_devices) B.pre
  have hown : s.vm.findClass RX14 = some m.cls := findClass_of_methodNamed B.named
  have hlocks := B.notSynchronized
  subst hsz
  have hD := hD0.self (sz := s.heap.size)
  generalize hAe : va_A [(h, .inr (20, [.ref l0, .ref l1, .ref l2, .ref l3, .ref l4, .ref l5, .ref l6, .ref l7, .ref l8, .int pn, .int bt, .int wt, .int mi, .int 0])), (l4, .inr (5, [.int m4, .ref d4, .int 0]))] s.heap.size = A at hD hZ0 ⊢
  have hZ := hZ0
  have hA : ∀ q : Nat, s.heap.size ≤ q → A q := fun q h => by rw [← hAe]; exact Or.inr h
  have hS : va_S A s.heap s.heap [] := va_S.rf
  have hP : va_P (dC, dI) vwCl [(h, .inr (20, [.ref l0, .ref l1, .ref l2, .ref l3, .ref l4, .ref l5, .ref l6, .ref l7, .ref l8, .int pn, .int bt, .int wt, .int mi, .int 0])), (l4, .inr (5, [.int m4, .ref d4, .int 0]))] s.heap := hP
  have hl := lv_entry ([.ref h]) (n := 5) (Nat.le_of_ble_eq_true rfl)
  rw [lg_entry_eq]
  generalize (lg_sl ([.ref h]) ++ List.replicate (5 - (lg_sl ([.ref h])).length) Slot.unset).toArray = ls at hl ⊢
  have hl : lv_has ls 5 [(0, .ref h)] := hl
  refine lv_aload_n hx hb dX14_devices_0 rfl (lv_at hl 0 rfl) ?_
  refine va_get (D := (dC, dI)) (ci := 20) (v := .int bt) (C := RX14) (T := TX14) (N := 14) hx hb hts (by decide +kernel) hown hK hP 0 rfl rfl 10 (by decide) (hts (.fieldLink RX14 46 "OrbitdockModel$Station" "battery" "I") (by decide +kernel)) (fun _ h9 => h9) rfl dX14_devices_1 ?_
  refine lv_aload_n hx hb dX14_devices_4 rfl (lv_at hl 0 rfl) ?_
  refine va_get (D := (dC, dI)) (ci := 20) (v := .int mi) (C := RX14) (T := TX14) (N := 14) hx hb hts (by decide +kernel) hown hK hP 0 rfl rfl 12 (by decide) (hts (.fieldLink RX14 52 "OrbitdockModel$Station" "minute" "I") (by decide +kernel)) (fun _ h9 => h9) rfl dX14_devices_5 ?_
  refine lv_bipush (v := 90) hx hb dX14_devices_8 (by decide) ?_
  refine lv_irem hx hb dX14_devices_10 (by decide) ?_
  refine lv_bipush (v := 60) hx hb dX14_devices_11 (by decide) ?_
  refine lv_icmp_ge (tgt := 23) hx hb dX14_devices_13 (by decide) (fun c_1 => ?_) (fun c_1 => ?_)
  · refine lv_iconst (v := 0) hx hb dX14_devices_23 (by decide) ?_
    refine lv_iadd hx hb dX14_devices_24 ?_
    refine lv_istore_n (lv' := [(1, .int (bt + 0)), (0, .ref h)]) hx hb dX14_devices_25 rfl hl (by decide) rfl (fun ls hl => ?_)
    refine lv_aload_n hx hb dX14_devices_26 rfl (lv_at hl 1 rfl) ?_
    refine va_get (D := (dC, dI)) (ci := 20) (v := .ref l4) (C := RX14) (T := TX14) (N := 14) hx hb hts (by decide +kernel) hown hK hP 0 rfl rfl 4 (by decide) (hts (.fieldLink RX14 27 "OrbitdockModel$Station" "devices" "Ljava/util/List;") (by decide +kernel)) (fun _ h9 => h9) rfl dX14_devices_27 ?_
    have hPc := hP.sub (ws' := [(l4, .inr (5, [.int m4, .ref d4, .int 0]))]) [1] rfl
    have hDc := hD.sub (ws' := [(l4, .inr (5, [.int m4, .ref d4, .int 0]))]) [1] (by decide) rfl
    have hKc := hK.sub (tys' := []) [] rfl
    have hFc := va_free (wc := [(l4, .inr (5, [.int m4, .ref d4, .int 0]))]) hD hS hA [1] rfl
    refine va_callFr (va_runF (As := []) (rest := []) (hK.1 5 _ rfl).2 ⟨hx, hb, hml, hown, hts⟩ (c_al_iterator l dC dI E l4 d4 m4 0 s.heap.size) (va_cwF 0 hts gX14_devices_Jx4a65c_iterator_32c93_f66Jx4a65c rfl rfl rfl hE.1.2.2.1 (by decide +kernel) ⟨(Nat.le_of_ble_eq_true rfl), (Nat.le_of_ble_eq_true rfl)⟩) ⟨pre_blind, va_recv hKc hPc (ci := 5) (q0 := 0) rfl rfl, pre_call hPc hDc hKc hFc hE hZ hS⟩ rfl rfl hl.1 rfl (lv_room (Nat.le_of_ble_eq_true rfl)) dX14_devices_30 ⟨(Nat.le_of_ble_eq_true rfl), (Nat.le_of_ble_eq_true rfl)⟩) hS (fun q _ h => hFc q h) hFc (fun u q_2 t H1 locs1 ht hvm hw hB hz1 hk1 hS => ?_)
    try dsimp only at hB
    obtain ⟨hP, hD, hK⟩ := pst_join (wc := [(l4, .inr (5, [.int m4, .ref d4, .int 0]))]) (wr := [(h, .inr (20, [.ref l0, .ref l1, .ref l2, .ref l3, .ref l4, .ref l5, .ref l6, .ref l7, .ref l8, .int pn, .int bt, .int wt, .int mi, .int 0]))]) (w1 := [(q_2, .inr (4, [.int 0, .int (-1), .int m4, .ref l4])), (l4, .inr (5, [.int m4, .ref d4, .int 0]))]) (tr := []) (t1 := []) hP hD hK [1] [0] [] rfl rfl rfl (by decide) (by decide) hk1 hFc ht hvm hB
    generalize H1 = H at hP hS ⊢
    have hP : va_P (dC, dI) vwCl [(h, .inr (20, [.ref l0, .ref l1, .ref l2, .ref l3, .ref l4, .ref l5, .ref l6, .ref l7, .ref l8, .int pn, .int bt, .int wt, .int mi, .int 0])), (q_2, .inr (4, [.int 0, .int (-1), .int m4, .ref l4])), (l4, .inr (5, [.int m4, .ref d4, .int 0]))] H := hP
    have hD : va_D A [(h, .inr (20, [.ref l0, .ref l1, .ref l2, .ref l3, .ref l4, .ref l5, .ref l6, .ref l7, .ref l8, .int pn, .int bt, .int wt, .int mi, .int 0])), (q_2, .inr (4, [.int 0, .int (-1), .int m4, .ref l4])), (l4, .inr (5, [.int m4, .ref d4, .int 0]))] := hD
    have hK : va_K (dC, dI) vwCl [] s := hK
    refine W.widen (k := 1) (n := 4) (Nat.le_of_ble_eq_true rfl) (Nat.le_of_ble_eq_true rfl) ?_
    refine lv_astore_n (lv' := [(2, .ref q_2), (1, .int (bt + 0)), (0, .ref h)]) hx hb dX14_devices_35 rfl hl (by decide) rfl (fun ls hl => ?_)
    refine lv_aload_n hx hb dX14_devices_36 rfl (lv_at hl 0 rfl) ?_
    have hPc := hP.sub (ws' := [(q_2, .inr (4, [.int 0, .int (-1), .int m4, .ref l4])), (l4, .inr (5, [.int m4, .ref d4, .int 0]))]) [1, 2] rfl
    have hDc := hD.sub (ws' := [(q_2, .inr (4, [.int 0, .int (-1), .int m4, .ref l4])), (l4, .inr (5, [.int m4, .ref d4, .int 0]))]) [1, 2] (by decide) rfl
    have hKc := hK.sub (tys' := []) [] rfl
    have hFc := va_free (wc := [(q_2, .inr (4, [.int 0, .int (-1), .int m4, .ref l4])), (l4, .inr (5, [.int m4, .ref d4, .int 0]))]) hD hS hA [1, 2] rfl
    refine va_callFi (va_runF (As := []) (rest := []) (hK.1 4 _ rfl).2 ⟨hx, hb, hml, hown, hts⟩ (c_itr_hasNext l dC dI E q_2 l4 d4 m4 H.size) (va_cwF 0 hts gX14_devices_Jx35411_hasNext_aae02_f70Jx35411 rfl rfl rfl hE.1.2.2.2.2.2.2 (by decide +kernel) ⟨(Nat.le_of_ble_eq_true rfl), (Nat.le_of_ble_eq_true rfl)⟩) ⟨pre_blind, va_recv hKc hPc (ci := 4) (q0 := 0) rfl rfl, pre_call hPc hDc hKc hFc hE hZ hS⟩ rfl rfl hl.1 rfl (lv_room (Nat.le_of_ble_eq_true rfl)) dX14_devices_37 ⟨(Nat.le_of_ble_eq_true rfl), (Nat.le_of_ble_eq_true rfl)⟩) hS (fun q _ h => hFc q h) hFc (fun r u t H1 locs1 ht hvm hw hB hz1 hk1 hS => ?_)
    have hw9 : r = 0 := hw
    rw [hw9]
    obtain ⟨hP, hD, hK⟩ := pst_join (wc := [(q_2, .inr (4, [.int 0, .int (-1), .int m4, .ref l4])), (l4, .inr (5, [.int m4, .ref d4, .int 0]))]) (wr := [(h, .inr (20, [.ref l0, .ref l1, .ref l2, .ref l3, .ref l4, .ref l5, .ref l6, .ref l7, .ref l8, .int pn, .int bt, .int wt, .int mi, .int 0]))]) (w1 := [(l4, .inr (5, [.int m4, .ref d4, .int 0]))]) (tr := []) (t1 := []) hP hD hK [1, 2] [0] [] rfl rfl rfl (by decide) (by decide) hk1 hFc ht hvm hB
    generalize H1 = H at hP hS ⊢
    have hP : va_P (dC, dI) vwCl [(h, .inr (20, [.ref l0, .ref l1, .ref l2, .ref l3, .ref l4, .ref l5, .ref l6, .ref l7, .ref l8, .int pn, .int bt, .int wt, .int mi, .int 0])), (l4, .inr (5, [.int m4, .ref d4, .int 0]))] H := hP
    have hD : va_D A [(h, .inr (20, [.ref l0, .ref l1, .ref l2, .ref l3, .ref l4, .ref l5, .ref l6, .ref l7, .ref l8, .int pn, .int bt, .int wt, .int mi, .int 0])), (l4, .inr (5, [.int m4, .ref d4, .int 0]))] := hD
    have hK : va_K (dC, dI) vwCl [] s := hK
    refine W.widen (k := 1) (n := 4) (Nat.le_of_ble_eq_true rfl) (Nat.le_of_ble_eq_true rfl) ?_
    refine lv_if_eq (tgt := 179) hx hb dX14_devices_42 (by decide) (fun _ => ?_) (fun c9 => absurd (by decide) c9)
    refine lv_aload_n hx hb dX14_devices_179 rfl (lv_at hl 2 rfl) ?_
    refine lv_sipush (v := 200) hx hb dX14_devices_180 (by decide) ?_
    refine lv_iload_n hx hb dX14_devices_183 rfl (lv_at hl 1 rfl) ?_
    refine va_mmin hx hb (by rw [hml]; exact hl.1.symm) hown (hts (.methodLink RX14 165 Lib.Math.min.name) (by decide +kernel)) (hts (.static Lib.Math.min.name) (by decide +kernel)) (hts (.initialized "java/lang/Math") (by decide +kernel)) (hts (.code Lib.Math.min.name Lib.Math.min.code 2 (some .int)) (by decide +kernel)) (Nat.le_of_ble_eq_true rfl) (Nat.le_of_ble_eq_true rfl) (Nat.le_of_ble_eq_true rfl) (Nat.le_of_ble_eq_true rfl) dX14_devices_184 ?_
    refine lv_topi (fun z_6 ez_6 => ?_)
    refine va_put (D := (dC, dI)) (ci := 20) (v := .int z_6) (ty := .int) (C := RX14) (T := TX14) (N := 14) hx hb hts (by decide +kernel) tyX14 tyX14_ok nmX14 hown hK hP hD hS 0 rfl rfl 10 (by decide) (hts (.fieldLink RX14 46 "OrbitdockModel$Station" "battery" "I") (by decide +kernel)) (fun _ h9 => h9) rfl (by decide +kernel) rfl rfl (Nat.le_of_ble_eq_true rfl) dX14_devices_187 (fun H locs hP hD hS => ?_)
    have hP : va_P (dC, dI) vwCl [(h, .inr (20, [.ref l0, .ref l1, .ref l2, .ref l3, .ref l4, .ref l5, .ref l6, .ref l7, .ref l8, .int pn, .int z_6, .int wt, .int mi, .int 0])), (l4, .inr (5, [.int m4, .ref d4, .int 0]))] H := hP
    have hD : va_D A [(h, .inr (20, [.ref l0, .ref l1, .ref l2, .ref l3, .ref l4, .ref l5, .ref l6, .ref l7, .ref l8, .int pn, .int z_6, .int wt, .int mi, .int 0])), (l4, .inr (5, [.int m4, .ref d4, .int 0]))] := hD
    have hP9 := hP.sub (ws' := [(h, .inr (20, [.ref l0, .ref l1, .ref l2, .ref l3, .ref l4, .ref l5, .ref l6, .ref l7, .ref l8, .int pn, .int z_6, .int wt, .int mi, .int 0])), (l4, .inr (5, [.int m4, .ref d4, .int 0]))]) [0, 1] rfl
    have hD9 := hD.sub (ws' := [(h, .inr (20, [.ref l0, .ref l1, .ref l2, .ref l3, .ref l4, .ref l5, .ref l6, .ref l7, .ref l8, .int pn, .int z_6, .int wt, .int mi, .int 0])), (l4, .inr (5, [.int m4, .ref d4, .int 0]))]) [0, 1] (by decide) rfl
    have hK9 := hK.sub (tys' := []) [] rfl
    refine W.widen (k := 1) (n := 4) (Nat.le_of_ble_eq_true rfl) (Nat.le_of_ble_eq_true rfl) ?_
    exact W.vret hx hb hr (fun t ht hW => ⟨⟨(), rfl, trivial, ⟨z_6, pst_of hP9 hD9 hK9 ht hW⟩⟩, hS.F ht⟩) hS.2.2 dX14_devices_190
  · refine lv_aload_n hx hb dX14_devices_16 rfl (lv_at hl 0 rfl) ?_
    refine va_get (D := (dC, dI)) (ci := 20) (v := .int pn) (C := RX14) (T := TX14) (N := 14) hx hb hts (by decide +kernel) hown hK hP 0 rfl rfl 9 (by decide) (hts (.fieldLink RX14 42 "OrbitdockModel$Station" "panels" "I") (by decide +kernel)) (fun _ h9 => h9) rfl dX14_devices_17 ?_
    refine lv_goto (tgt := 24) hx hb dX14_devices_20 (by decide) ?_
    refine lv_iadd hx hb dX14_devices_24 ?_
    refine lv_istore_n (lv' := [(1, .int (bt + pn)), (0, .ref h)]) hx hb dX14_devices_25 rfl hl (by decide) rfl (fun ls hl => ?_)
    refine lv_aload_n hx hb dX14_devices_26 rfl (lv_at hl 1 rfl) ?_
    refine va_get (D := (dC, dI)) (ci := 20) (v := .ref l4) (C := RX14) (T := TX14) (N := 14) hx hb hts (by decide +kernel) hown hK hP 0 rfl rfl 4 (by decide) (hts (.fieldLink RX14 27 "OrbitdockModel$Station" "devices" "Ljava/util/List;") (by decide +kernel)) (fun _ h9 => h9) rfl dX14_devices_27 ?_
    have hPc := hP.sub (ws' := [(l4, .inr (5, [.int m4, .ref d4, .int 0]))]) [1] rfl
    have hDc := hD.sub (ws' := [(l4, .inr (5, [.int m4, .ref d4, .int 0]))]) [1] (by decide) rfl
    have hKc := hK.sub (tys' := []) [] rfl
    have hFc := va_free (wc := [(l4, .inr (5, [.int m4, .ref d4, .int 0]))]) hD hS hA [1] rfl
    refine va_callFr (va_runF (As := []) (rest := []) (hK.1 5 _ rfl).2 ⟨hx, hb, hml, hown, hts⟩ (c_al_iterator l dC dI E l4 d4 m4 0 s.heap.size) (va_cwF 0 hts gX14_devices_Jx4a65c_iterator_32c93_f66Jx4a65c rfl rfl rfl hE.1.2.2.1 (by decide +kernel) ⟨(Nat.le_of_ble_eq_true rfl), (Nat.le_of_ble_eq_true rfl)⟩) ⟨pre_blind, va_recv hKc hPc (ci := 5) (q0 := 0) rfl rfl, pre_call hPc hDc hKc hFc hE hZ hS⟩ rfl rfl hl.1 rfl (lv_room (Nat.le_of_ble_eq_true rfl)) dX14_devices_30 ⟨(Nat.le_of_ble_eq_true rfl), (Nat.le_of_ble_eq_true rfl)⟩) hS (fun q _ h => hFc q h) hFc (fun u q_7 t H1 locs1 ht hvm hw hB hz1 hk1 hS => ?_)
    try dsimp only at hB
    obtain ⟨hP, hD, hK⟩ := pst_join (wc := [(l4, .inr (5, [.int m4, .ref d4, .int 0]))]) (wr := [(h, .inr (20, [.ref l0, .ref l1, .ref l2, .ref l3, .ref l4, .ref l5, .ref l6, .ref l7, .ref l8, .int pn, .int bt, .int wt, .int mi, .int 0]))]) (w1 := [(q_7, .inr (4, [.int 0, .int (-1), .int m4, .ref l4])), (l4, .inr (5, [.int m4, .ref d4, .int 0]))]) (tr := []) (t1 := []) hP hD hK [1] [0] [] rfl rfl rfl (by decide) (by decide) hk1 hFc ht hvm hB
    generalize H1 = H at hP hS ⊢
    have hP : va_P (dC, dI) vwCl [(h, .inr (20, [.ref l0, .ref l1, .ref l2, .ref l3, .ref l4, .ref l5, .ref l6, .ref l7, .ref l8, .int pn, .int bt, .int wt, .int mi, .int 0])), (q_7, .inr (4, [.int 0, .int (-1), .int m4, .ref l4])), (l4, .inr (5, [.int m4, .ref d4, .int 0]))] H := hP
    have hD : va_D A [(h, .inr (20, [.ref l0, .ref l1, .ref l2, .ref l3, .ref l4, .ref l5, .ref l6, .ref l7, .ref l8, .int pn, .int bt, .int wt, .int mi, .int 0])), (q_7, .inr (4, [.int 0, .int (-1), .int m4, .ref l4])), (l4, .inr (5, [.int m4, .ref d4, .int 0]))] := hD
    have hK : va_K (dC, dI) vwCl [] s := hK
    refine W.widen (k := 1) (n := 4) (Nat.le_of_ble_eq_true rfl) (Nat.le_of_ble_eq_true rfl) ?_
    refine lv_astore_n (lv' := [(2, .ref q_7), (1, .int (bt + pn)), (0, .ref h)]) hx hb dX14_devices_35 rfl hl (by decide) rfl (fun ls hl => ?_)
    refine lv_aload_n hx hb dX14_devices_36 rfl (lv_at hl 0 rfl) ?_
    have hPc := hP.sub (ws' := [(q_7, .inr (4, [.int 0, .int (-1), .int m4, .ref l4])), (l4, .inr (5, [.int m4, .ref d4, .int 0]))]) [1, 2] rfl
    have hDc := hD.sub (ws' := [(q_7, .inr (4, [.int 0, .int (-1), .int m4, .ref l4])), (l4, .inr (5, [.int m4, .ref d4, .int 0]))]) [1, 2] (by decide) rfl
    have hKc := hK.sub (tys' := []) [] rfl
    have hFc := va_free (wc := [(q_7, .inr (4, [.int 0, .int (-1), .int m4, .ref l4])), (l4, .inr (5, [.int m4, .ref d4, .int 0]))]) hD hS hA [1, 2] rfl
    refine va_callFi (va_runF (As := []) (rest := []) (hK.1 4 _ rfl).2 ⟨hx, hb, hml, hown, hts⟩ (c_itr_hasNext l dC dI E q_7 l4 d4 m4 H.size) (va_cwF 0 hts gX14_devices_Jx35411_hasNext_aae02_f70Jx35411 rfl rfl rfl hE.1.2.2.2.2.2.2 (by decide +kernel) ⟨(Nat.le_of_ble_eq_true rfl), (Nat.le_of_ble_eq_true rfl)⟩) ⟨pre_blind, va_recv hKc hPc (ci := 4) (q0 := 0) rfl rfl, pre_call hPc hDc hKc hFc hE hZ hS⟩ rfl rfl hl.1 rfl (lv_room (Nat.le_of_ble_eq_true rfl)) dX14_devices_37 ⟨(Nat.le_of_ble_eq_true rfl), (Nat.le_of_ble_eq_true rfl)⟩) hS (fun q _ h => hFc q h) hFc (fun r u t H1 locs1 ht hvm hw hB hz1 hk1 hS => ?_)
    have hw9 : r = 0 := hw
    rw [hw9]
    obtain ⟨hP, hD, hK⟩ := pst_join (wc := [(q_7, .inr (4, [.int 0, .int (-1), .int m4, .ref l4])), (l4, .inr (5, [.int m4, .ref d4, .int 0]))]) (wr := [(h, .inr (20, [.ref l0, .ref l1, .ref l2, .ref l3, .ref l4, .ref l5, .ref l6, .ref l7, .ref l8, .int pn, .int bt, .int wt, .int mi, .int 0]))]) (w1 := [(l4, .inr (5, [.int m4, .ref d4, .int 0]))]) (tr := []) (t1 := []) hP hD hK [1, 2] [0] [] rfl rfl rfl (by decide) (by decide) hk1 hFc ht hvm hB
    generalize H1 = H at hP hS ⊢
    have hP : va_P (dC, dI) vwCl [(h, .inr (20, [.ref l0, .ref l1, .ref l2, .ref l3, .ref l4, .ref l5, .ref l6, .ref l7, .ref l8, .int pn, .int bt, .int wt, .int mi, .int 0])), (l4, .inr (5, [.int m4, .ref d4, .int 0]))] H := hP
    have hD : va_D A [(h, .inr (20, [.ref l0, .ref l1, .ref l2, .ref l3, .ref l4, .ref l5, .ref l6, .ref l7, .ref l8, .int pn, .int bt, .int wt, .int mi, .int 0])), (l4, .inr (5, [.int m4, .ref d4, .int 0]))] := hD
    have hK : va_K (dC, dI) vwCl [] s := hK
    refine W.widen (k := 1) (n := 4) (Nat.le_of_ble_eq_true rfl) (Nat.le_of_ble_eq_true rfl) ?_
    refine lv_if_eq (tgt := 179) hx hb dX14_devices_42 (by decide) (fun _ => ?_) (fun c9 => absurd (by decide) c9)
    refine lv_aload_n hx hb dX14_devices_179 rfl (lv_at hl 2 rfl) ?_
    refine lv_sipush (v := 200) hx hb dX14_devices_180 (by decide) ?_
    refine lv_iload_n hx hb dX14_devices_183 rfl (lv_at hl 1 rfl) ?_
    refine va_mmin hx hb (by rw [hml]; exact hl.1.symm) hown (hts (.methodLink RX14 165 Lib.Math.min.name) (by decide +kernel)) (hts (.static Lib.Math.min.name) (by decide +kernel)) (hts (.initialized "java/lang/Math") (by decide +kernel)) (hts (.code Lib.Math.min.name Lib.Math.min.code 2 (some .int)) (by decide +kernel)) (Nat.le_of_ble_eq_true rfl) (Nat.le_of_ble_eq_true rfl) (Nat.le_of_ble_eq_true rfl) (Nat.le_of_ble_eq_true rfl) dX14_devices_184 ?_
    refine lv_topi (fun z_11 ez_11 => ?_)
    refine va_put (D := (dC, dI)) (ci := 20) (v := .int z_11) (ty := .int) (C := RX14) (T := TX14) (N := 14) hx hb hts (by decide +kernel) tyX14 tyX14_ok nmX14 hown hK hP hD hS 0 rfl rfl 10 (by decide) (hts (.fieldLink RX14 46 "OrbitdockModel$Station" "battery" "I") (by decide +kernel)) (fun _ h9 => h9) rfl (by decide +kernel) rfl rfl (Nat.le_of_ble_eq_true rfl) dX14_devices_187 (fun H locs hP hD hS => ?_)
    have hP : va_P (dC, dI) vwCl [(h, .inr (20, [.ref l0, .ref l1, .ref l2, .ref l3, .ref l4, .ref l5, .ref l6, .ref l7, .ref l8, .int pn, .int z_11, .int wt, .int mi, .int 0])), (l4, .inr (5, [.int m4, .ref d4, .int 0]))] H := hP
    have hD : va_D A [(h, .inr (20, [.ref l0, .ref l1, .ref l2, .ref l3, .ref l4, .ref l5, .ref l6, .ref l7, .ref l8, .int pn, .int z_11, .int wt, .int mi, .int 0])), (l4, .inr (5, [.int m4, .ref d4, .int 0]))] := hD
    have hP9 := hP.sub (ws' := [(h, .inr (20, [.ref l0, .ref l1, .ref l2, .ref l3, .ref l4, .ref l5, .ref l6, .ref l7, .ref l8, .int pn, .int z_11, .int wt, .int mi, .int 0])), (l4, .inr (5, [.int m4, .ref d4, .int 0]))]) [0, 1] rfl
    have hD9 := hD.sub (ws' := [(h, .inr (20, [.ref l0, .ref l1, .ref l2, .ref l3, .ref l4, .ref l5, .ref l6, .ref l7, .ref l8, .int pn, .int z_11, .int wt, .int mi, .int 0])), (l4, .inr (5, [.int m4, .ref d4, .int 0]))]) [0, 1] (by decide) rfl
    have hK9 := hK.sub (tys' := []) [] rfl
    refine W.widen (k := 1) (n := 4) (Nat.le_of_ble_eq_true rfl) (Nat.le_of_ble_eq_true rfl) ?_
    exact W.vret hx hb hr (fun t ht hW => ⟨⟨(), rfl, trivial, ⟨z_11, pst_of hP9 hD9 hK9 ht hW⟩⟩, hS.F ht⟩) hS.2.2 dX14_devices_190

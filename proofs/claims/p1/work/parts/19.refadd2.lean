set_option maxHeartbeats 4000000 in
set_option maxRecDepth 100000 in
theorem c_rm_addRoom_m (l : Launch) (dC : Nat → ClassId) (dI : Nat → Nat → Nat) (E : Nat → Nat) (x : Nat) (s0 : Nat) (l0 : Nat) (l1 : Nat) (l2 : Nat) (l3 : Nat) (l4 : Nat) (l5 : Nat) (l6 : Nat) (l7 : Nat) (l8 : Nat) (th : Int32) (a : Int32) (sz : Nat) (hla : ¬ a < 0) (hua : ¬ 200 < a) (h1 : ¬ a < (-128)) (h2 : 127 < a) : Met l yX15_addRoom wsX15_addRoom ({ frames := 5, cells := 4, slots := 31, locals := 101 }) (va_Pc [.ref x, .int a] (pre dC dI E [(x, .inr (21, [.ref s0, .int th])), (s0, .inr (20, [.ref l0, .ref l1, .ref l2, .ref l3, .ref l4, .ref l5, .ref l6, .ref l7, .ref l8, .int 10, .int 100, .int 50, .int 0, .int 0])), (l0, .inr (5, [.int 0, .ref (E 0), .int 0])), (l1, .inr (5, [.int 0, .ref (E 0), .int 0])), (l2, .inr (5, [.int 0, .ref (E 0), .int 0]))] [] sz)) (va_Qi (fun (r : Int32) (_ : Unit) => r = 0) (fun _ t => pst dC dI (va_A [(x, .inr (21, [.ref s0, .int th])), (s0, .inr (20, [.ref l0, .ref l1, .ref l2, .ref l3, .ref l4, .ref l5, .ref l6, .ref l7, .ref l8, .int 10, .int 100, .int 50, .int 0, .int 0])), (l0, .inr (5, [.int 0, .ref (E 0), .int 0])), (l1, .inr (5, [.int 0, .ref (E 0), .int 0])), (l2, .inr (5, [.int 0, .ref (E 0), .int 0]))] sz) [(x, .inr (21, [.ref s0, .int 0]))] [] t) (va_A [(x, .inr (21, [.ref s0, .int th])), (s0, .inr (20, [.ref l0, .ref l1, .ref l2, .ref l3, .ref l4, .ref l5, .ref l6, .ref l7, .ref l8, .int 10, .int 100, .int 50, .int 0, .int 0])), (l0, .inr (5, [.int 0, .ref (E 0), .int 0])), (l1, .inr (5, [.int 0, .ref (E 0), .int 0])), (l2, .inr (5, [.int 0, .ref (E 0), .int 0]))] sz)) 4 31 (va_A [(x, .inr (21, [.ref s0, .int th])), (s0, .inr (20, [.ref l0, .ref l1, .ref l2, .ref l3, .ref l4, .ref l5, .ref l6, .ref l7, .ref l8, .int 10, .int 100, .int 50, .int 0, .int 0])), (l0, .inr (5, [.int 0, .ref (E 0), .int 0])), (l1, .inr (5, [.int 0, .ref (E 0), .int 0])), (l2, .inr (5, [.int 0, .ref (E 0), .int 0]))] sz) := by
  refine Met.ofW (cc := cX15_addRoom) (maxL := 2) (ret := (some .int)) (by decide) rfl ?_
  intro p e s m args below meth c s₁ B hml hv
  obtain ⟨rfl, hsz, hP, hK, hD0, hE, hZ0⟩ := hv
  have hx := B.exec
  have hb := B.bytes
  have hr := B.returns
  have hts := atoms_spec (ws := wsX15_addRoom) B.pre
  have hown : s.vm.findClass RX15 = some m.cls := findClass_of_methodNamed B.named
  have hlocks := B.notSynchronized
  subst hsz
  have hD := hD0.self (sz := s.heap.size)
  generalize hAe : va_A [(x, .inr (21, [.ref s0, .int th])), (s0, .inr (20, [.ref l0, .ref l1, .ref l2, .ref l3, .ref l4, .ref l5, .ref l6, .ref l7, .ref l8, .int 10, .int 100, .int 50, .int 0, .int 0])), (l0, .inr (5, [.int 0, .ref (E 0), .int 0])), (l1, .inr (5, [.int 0, .ref (E 0), .int 0])), (l2, .inr (5, [.int 0, .ref (E 0), .int 0]))] s.heap.size = A at hD hZ0 ⊢
  have hZ := hZ0
  have hA : ∀ q : Nat, s.heap.size ≤ q → A q := fun q h => by rw [← hAe]; exact Or.inr h
  have hS : va_S A s.heap s.heap [] := va_S.rf
  have hP : va_P (dC, dI) vwCl [(x, .inr (21, [.ref s0, .int th])), (s0, .inr (20, [.ref l0, .ref l1, .ref l2, .ref l3, .ref l4, .ref l5, .ref l6, .ref l7, .ref l8, .int 10, .int 100, .int 50, .int 0, .int 0])), (l0, .inr (5, [.int 0, .ref (E 0), .int 0])), (l1, .inr (5, [.int 0, .ref (E 0), .int 0])), (l2, .inr (5, [.int 0, .ref (E 0), .int 0]))] s.heap := hP
  have hl := lv_entry ([.ref x, .int a]) (n := 2) (Nat.le_of_ble_eq_true rfl)
  rw [lg_entry_eq]
  generalize (lg_sl ([.ref x, .int a]) ++ List.replicate (2 - (lg_sl ([.ref x, .int a])).length) Slot.unset).toArray = ls at hl ⊢
  have hl : lv_has ls 2 [(0, .ref x), (1, .int a)] := hl
  refine lv_aload_n hx hb dX15_addRoom_0 rfl (lv_at hl 0 rfl) ?_
  refine lv_iload_n hx hb dX15_addRoom_1 rfl (lv_at hl 1 rfl) ?_
  refine lv_iconst (v := 0) hx hb dX15_addRoom_2 (by decide) ?_
  refine lv_sipush (v := 200) hx hb dX15_addRoom_3 (by decide) ?_
  have hPc := hP.sub (ws' := []) [] rfl
  have hDc := hD.sub (ws' := []) [] (by decide) rfl
  have hKc := hK.sub (tys' := []) [] rfl
  have hFc := va_free (wc := []) hD hS hA [] rfl
  refine va_calli (va_runS (As := [.int a, .int 0, .int 200]) (rest := [.ref x]) ⟨hx, hb, hml, hown, hts⟩ (c_rm_isIn_y l dC dI E a 0 200 s.heap.size hla hua) (va_cwS 3 hts gX15_addRoom_X15_isIn rfl rfl rfl (by decide +kernel) ⟨(Nat.le_of_ble_eq_true rfl), (Nat.le_of_ble_eq_true rfl)⟩) ⟨pre_blind, pre_call hPc hDc hKc hFc hE hZ hS⟩ rfl rfl hl.1 rfl (lv_room (Nat.le_of_ble_eq_true rfl)) dX15_addRoom_6 ⟨(Nat.le_of_ble_eq_true rfl), (Nat.le_of_ble_eq_true rfl)⟩) hS (fun q _ h => hFc q h) hFc (fun r u t H1 locs1 ht hvm hw hB hz1 hk1 hS => ?_)
  have hw9 : r = 1 := hw
  rw [hw9]
  obtain ⟨hP, hD, hK⟩ := pst_join (wc := []) (wr := [(x, .inr (21, [.ref s0, .int th])), (s0, .inr (20, [.ref l0, .ref l1, .ref l2, .ref l3, .ref l4, .ref l5, .ref l6, .ref l7, .ref l8, .int 10, .int 100, .int 50, .int 0, .int 0])), (l0, .inr (5, [.int 0, .ref (E 0), .int 0])), (l1, .inr (5, [.int 0, .ref (E 0), .int 0])), (l2, .inr (5, [.int 0, .ref (E 0), .int 0]))]) (w1 := []) (tr := []) (t1 := []) hP hD hK [] [0, 1, 2, 3, 4] [] rfl rfl rfl (by decide) (by decide) hk1 hFc ht hvm hB
  generalize H1 = H at hP hS ⊢
  have hP : va_P (dC, dI) vwCl [(x, .inr (21, [.ref s0, .int th])), (s0, .inr (20, [.ref l0, .ref l1, .ref l2, .ref l3, .ref l4, .ref l5, .ref l6, .ref l7, .ref l8, .int 10, .int 100, .int 50, .int 0, .int 0])), (l0, .inr (5, [.int 0, .ref (E 0), .int 0])), (l1, .inr (5, [.int 0, .ref (E 0), .int 0])), (l2, .inr (5, [.int 0, .ref (E 0), .int 0]))] H := hP
  have hD : va_D A [(x, .inr (21, [.ref s0, .int th])), (s0, .inr (20, [.ref l0, .ref l1, .ref l2, .ref l3, .ref l4, .ref l5, .ref l6, .ref l7, .ref l8, .int 10, .int 100, .int 50, .int 0, .int 0])), (l0, .inr (5, [.int 0, .ref (E 0), .int 0])), (l1, .inr (5, [.int 0, .ref (E 0), .int 0])), (l2, .inr (5, [.int 0, .ref (E 0), .int 0]))] := hD
  have hK : va_K (dC, dI) vwCl [] s := hK
  refine W.widen (k := 0) (n := 0) (Nat.le_of_ble_eq_true rfl) (Nat.le_of_ble_eq_true rfl) ?_
  refine lv_iconst (v := 1) hx hb dX15_addRoom_9 (by decide) ?_
  have hPc := hP.sub (ws' := [(x, .inr (21, [.ref s0, .int th]))]) [0] rfl
  have hDc := hD.sub (ws' := [(x, .inr (21, [.ref s0, .int th]))]) [0] (by decide) rfl
  have hKc := hK.sub (tys' := []) [] rfl
  have hFc := va_free (wc := [(x, .inr (21, [.ref s0, .int th]))]) hD hS hA [0] rfl
  refine va_calli (va_runV (As := [.int 1, .int 1]) (rest := []) ⟨hx, hb, hml, hown, hts⟩ (c_rm_no_1 l dC dI E x s0 th 1 H.size) (cwV 2 hts gX15_addRoom_X15_no rfl rfl rfl (by decide +kernel) ⟨(Nat.le_of_ble_eq_true rfl), (Nat.le_of_ble_eq_true rfl)⟩) ⟨pre_blind, va_recv hKc hPc (ci := 21) (q0 := 0) rfl rfl, pre_call hPc hDc hKc hFc hE hZ hS⟩ rfl rfl hl.1 rfl (lv_room (Nat.le_of_ble_eq_true rfl)) dX15_addRoom_10 ⟨(Nat.le_of_ble_eq_true rfl), (Nat.le_of_ble_eq_true rfl)⟩) hS (fun q _ h => hFc q h) hFc (fun r u t H1 locs1 ht hvm hw hB hz1 hk1 hS => ?_)
  have hw9 : r = 0 := hw
  rw [hw9]
  obtain ⟨hP, hD, hK⟩ := pst_join (wc := [(x, .inr (21, [.ref s0, .int th]))]) (wr := [(s0, .inr (20, [.ref l0, .ref l1, .ref l2, .ref l3, .ref l4, .ref l5, .ref l6, .ref l7, .ref l8, .int 10, .int 100, .int 50, .int 0, .int 0])), (l0, .inr (5, [.int 0, .ref (E 0), .int 0])), (l1, .inr (5, [.int 0, .ref (E 0), .int 0])), (l2, .inr (5, [.int 0, .ref (E 0), .int 0]))]) (w1 := [(x, .inr (21, [.ref s0, .int 0]))]) (tr := []) (t1 := []) hP hD hK [0] [1, 2, 3, 4] [] rfl rfl rfl (by decide) (by decide) hk1 hFc ht hvm hB
  generalize H1 = H at hP hS ⊢
  have hP : va_P (dC, dI) vwCl [(s0, .inr (20, [.ref l0, .ref l1, .ref l2, .ref l3, .ref l4, .ref l5, .ref l6, .ref l7, .ref l8, .int 10, .int 100, .int 50, .int 0, .int 0])), (l0, .inr (5, [.int 0, .ref (E 0), .int 0])), (l1, .inr (5, [.int 0, .ref (E 0), .int 0])), (l2, .inr (5, [.int 0, .ref (E 0), .int 0])), (x, .inr (21, [.ref s0, .int 0]))] H := hP
  have hD : va_D A [(s0, .inr (20, [.ref l0, .ref l1, .ref l2, .ref l3, .ref l4, .ref l5, .ref l6, .ref l7, .ref l8, .int 10, .int 100, .int 50, .int 0, .int 0])), (l0, .inr (5, [.int 0, .ref (E 0), .int 0])), (l1, .inr (5, [.int 0, .ref (E 0), .int 0])), (l2, .inr (5, [.int 0, .ref (E 0), .int 0])), (x, .inr (21, [.ref s0, .int 0]))] := hD
  have hK : va_K (dC, dI) vwCl [] s := hK
  refine W.widen (k := 0) (n := 0) (Nat.le_of_ble_eq_true rfl) (Nat.le_of_ble_eq_true rfl) ?_
  refine lv_if_ne (tgt := 46) hx hb dX15_addRoom_13 (by decide) (fun c9 => absurd (by decide) c9) (fun _ => ?_)
  refine lv_aload_n hx hb dX15_addRoom_16 rfl (lv_at hl 0 rfl) ?_
  refine lv_aload_n hx hb dX15_addRoom_17 rfl (lv_at hl 0 rfl) ?_
  refine va_get (D := (dC, dI)) (ci := 21) (v := .ref s0) (C := RX15) (T := TX15) (N := 2) hx hb hts (by decide +kernel) hown hK hP 4 rfl rfl 0 (by decide) (hts (.fieldLink RX15 10 "OrbitdockModel" "station" "LOrbitdockModel$Station;") (by decide +kernel)) (fun _ h9 => h9) rfl dX15_addRoom_18 ?_
  refine va_get (D := (dC, dI)) (ci := 20) (v := .ref l0) (C := RX14) (T := TX14) (N := 14) hx hb hts (by decide +kernel) hown hK hP 0 rfl rfl 0 (by decide) (hts (.fieldLink RX15 20 "OrbitdockModel$Station" "oxygen" "Ljava/util/List;") (by decide +kernel)) (fun _ h9 => h9) rfl dX15_addRoom_21 ?_
  have hPc := hP.sub (ws' := [(l0, .inr (5, [.int 0, .ref (E 0), .int 0]))]) [1] rfl
  have hDc := hD.sub (ws' := [(l0, .inr (5, [.int 0, .ref (E 0), .int 0]))]) [1] (by decide) rfl
  have hKc := hK.sub (tys' := []) [] rfl
  have hFc := va_free (wc := [(l0, .inr (5, [.int 0, .ref (E 0), .int 0]))]) hD hS hA [1] rfl
  refine va_callFi (va_runF (As := []) (rest := [.ref x]) (hK.1 5 _ rfl).2 ⟨hx, hb, hml, hown, hts⟩ (c_al_size l dC dI E l0 (E 0) 0 0 H.size) (va_cwF 0 hts gX15_addRoom_Jx4a65c_size_8abf5_f24Jx4a65c rfl rfl rfl hE.1.1 (by decide +kernel) ⟨(Nat.le_of_ble_eq_true rfl), (Nat.le_of_ble_eq_true rfl)⟩) ⟨pre_blind, va_recv hKc hPc (ci := 5) (q0 := 0) rfl rfl, pre_call hPc hDc hKc hFc hE hZ hS⟩ rfl rfl hl.1 rfl (lv_room (Nat.le_of_ble_eq_true rfl)) dX15_addRoom_24 ⟨(Nat.le_of_ble_eq_true rfl), (Nat.le_of_ble_eq_true rfl)⟩) hS (fun q _ h => hFc q h) hFc (fun r u t H1 locs1 ht hvm hw hB hz1 hk1 hS => ?_)
  have hw9 : r = 0 := hw
  rw [hw9]
  obtain ⟨hP, hD, hK⟩ := pst_join (wc := [(l0, .inr (5, [.int 0, .ref (E 0), .int 0]))]) (wr := [(s0, .inr (20, [.ref l0, .ref l1, .ref l2, .ref l3, .ref l4, .ref l5, .ref l6, .ref l7, .ref l8, .int 10, .int 100, .int 50, .int 0, .int 0])), (l1, .inr (5, [.int 0, .ref (E 0), .int 0])), (l2, .inr (5, [.int 0, .ref (E 0), .int 0])), (x, .inr (21, [.ref s0, .int 0]))]) (w1 := [(l0, .inr (5, [.int 0, .ref (E 0), .int 0]))]) (tr := []) (t1 := []) hP hD hK [1] [0, 2, 3, 4] [] rfl rfl rfl (by decide) (by decide) hk1 hFc ht hvm hB
  generalize H1 = H at hP hS ⊢
  have hP : va_P (dC, dI) vwCl [(s0, .inr (20, [.ref l0, .ref l1, .ref l2, .ref l3, .ref l4, .ref l5, .ref l6, .ref l7, .ref l8, .int 10, .int 100, .int 50, .int 0, .int 0])), (l1, .inr (5, [.int 0, .ref (E 0), .int 0])), (l2, .inr (5, [.int 0, .ref (E 0), .int 0])), (x, .inr (21, [.ref s0, .int 0])), (l0, .inr (5, [.int 0, .ref (E 0), .int 0]))] H := hP
  have hD : va_D A [(s0, .inr (20, [.ref l0, .ref l1, .ref l2, .ref l3, .ref l4, .ref l5, .ref l6, .ref l7, .ref l8, .int 10, .int 100, .int 50, .int 0, .int 0])), (l1, .inr (5, [.int 0, .ref (E 0), .int 0])), (l2, .inr (5, [.int 0, .ref (E 0), .int 0])), (x, .inr (21, [.ref s0, .int 0])), (l0, .inr (5, [.int 0, .ref (E 0), .int 0]))] := hD
  have hK : va_K (dC, dI) vwCl [] s := hK
  refine W.widen (k := 0) (n := 0) (Nat.le_of_ble_eq_true rfl) (Nat.le_of_ble_eq_true rfl) ?_
  refine lv_bipush (v := 6) hx hb dX15_addRoom_29 (by decide) ?_
  refine lv_icmp_ge (tgt := 38) hx hb dX15_addRoom_31 (by decide) (fun c9 => absurd c9 (by decide)) (fun _ => ?_)
  refine lv_iconst (v := 1) hx hb dX15_addRoom_34 (by decide) ?_
  refine lv_goto (tgt := 39) hx hb dX15_addRoom_35 (by decide) ?_
  refine lv_iconst (v := 2) hx hb dX15_addRoom_39 (by decide) ?_
  have hPc := hP.sub (ws' := [(x, .inr (21, [.ref s0, .int 0]))]) [3] rfl
  have hDc := hD.sub (ws' := [(x, .inr (21, [.ref s0, .int 0]))]) [3] (by decide) rfl
  have hKc := hK.sub (tys' := []) [] rfl
  have hFc := va_free (wc := [(x, .inr (21, [.ref s0, .int 0]))]) hD hS hA [3] rfl
  refine va_calli (va_runV (As := [.int 1, .int 2]) (rest := []) ⟨hx, hb, hml, hown, hts⟩ (c_rm_no_1 l dC dI E x s0 0 2 H.size) (cwV 2 hts gX15_addRoom_X15_no rfl rfl rfl (by decide +kernel) ⟨(Nat.le_of_ble_eq_true rfl), (Nat.le_of_ble_eq_true rfl)⟩) ⟨pre_blind, va_recv hKc hPc (ci := 21) (q0 := 0) rfl rfl, pre_call hPc hDc hKc hFc hE hZ hS⟩ rfl rfl hl.1 rfl (lv_room (Nat.le_of_ble_eq_true rfl)) dX15_addRoom_40 ⟨(Nat.le_of_ble_eq_true rfl), (Nat.le_of_ble_eq_true rfl)⟩) hS (fun q _ h => hFc q h) hFc (fun r u t H1 locs1 ht hvm hw hB hz1 hk1 hS => ?_)
  have hw9 : r = 0 := hw
  rw [hw9]
  obtain ⟨hP, hD, hK⟩ := pst_join (wc := [(x, .inr (21, [.ref s0, .int 0]))]) (wr := [(s0, .inr (20, [.ref l0, .ref l1, .ref l2, .ref l3, .ref l4, .ref l5, .ref l6, .ref l7, .ref l8, .int 10, .int 100, .int 50, .int 0, .int 0])), (l1, .inr (5, [.int 0, .ref (E 0), .int 0])), (l2, .inr (5, [.int 0, .ref (E 0), .int 0])), (l0, .inr (5, [.int 0, .ref (E 0), .int 0]))]) (w1 := [(x, .inr (21, [.ref s0, .int 0]))]) (tr := []) (t1 := []) hP hD hK [3] [0, 1, 2, 4] [] rfl rfl rfl (by decide) (by decide) hk1 hFc ht hvm hB
  generalize H1 = H at hP hS ⊢
  have hP : va_P (dC, dI) vwCl [(s0, .inr (20, [.ref l0, .ref l1, .ref l2, .ref l3, .ref l4, .ref l5, .ref l6, .ref l7, .ref l8, .int 10, .int 100, .int 50, .int 0, .int 0])), (l1, .inr (5, [.int 0, .ref (E 0), .int 0])), (l2, .inr (5, [.int 0, .ref (E 0), .int 0])), (l0, .inr (5, [.int 0, .ref (E 0), .int 0])), (x, .inr (21, [.ref s0, .int 0]))] H := hP
  have hD : va_D A [(s0, .inr (20, [.ref l0, .ref l1, .ref l2, .ref l3, .ref l4, .ref l5, .ref l6, .ref l7, .ref l8, .int 10, .int 100, .int 50, .int 0, .int 0])), (l1, .inr (5, [.int 0, .ref (E 0), .int 0])), (l2, .inr (5, [.int 0, .ref (E 0), .int 0])), (l0, .inr (5, [.int 0, .ref (E 0), .int 0])), (x, .inr (21, [.ref s0, .int 0]))] := hD
  have hK : va_K (dC, dI) vwCl [] s := hK
  refine W.widen (k := 0) (n := 0) (Nat.le_of_ble_eq_true rfl) (Nat.le_of_ble_eq_true rfl) ?_
  refine lv_if_eq (tgt := 48) hx hb dX15_addRoom_43 (by decide) (fun _ => ?_) (fun c9 => absurd (by decide) c9)
  refine lv_aload_n hx hb dX15_addRoom_48 rfl (lv_at hl 0 rfl) ?_
  refine va_get (D := (dC, dI)) (ci := 21) (v := .ref s0) (C := RX15) (T := TX15) (N := 2) hx hb hts (by decide +kernel) hown hK hP 4 rfl rfl 0 (by decide) (hts (.fieldLink RX15 10 "OrbitdockModel" "station" "LOrbitdockModel$Station;") (by decide +kernel)) (fun _ h9 => h9) rfl dX15_addRoom_49 ?_
  refine va_get (D := (dC, dI)) (ci := 20) (v := .ref l0) (C := RX14) (T := TX14) (N := 14) hx hb hts (by decide +kernel) hown hK hP 0 rfl rfl 0 (by decide) (hts (.fieldLink RX15 20 "OrbitdockModel$Station" "oxygen" "Ljava/util/List;") (by decide +kernel)) (fun _ h9 => h9) rfl dX15_addRoom_52 ?_
  refine lv_iload_n hx hb dX15_addRoom_55 rfl (lv_at hl 1 rfl) ?_
  have hPc := hP.sub (ws' := []) [] rfl
  have hDc := hD.sub (ws' := []) [] (by decide) rfl
  have hKc := hK.sub (tys' := []) [] rfl
  have hFc := va_free (wc := []) hD hS hA [] rfl
  refine va_callr (va_runS (As := [.int a]) (rest := [.ref l0]) ⟨hx, hb, hml, hown, hts⟩ (c_valueOf_n l dC dI E a H.size h1 h2) (va_cwS 1 hts gX15_addRoom_J6_valueOf_2dffe rfl rfl rfl (by decide +kernel) ⟨(Nat.le_of_ble_eq_true rfl), (Nat.le_of_ble_eq_true rfl)⟩) ⟨pre_blind, pre_call hPc hDc hKc hFc hE hZ hS⟩ rfl rfl hl.1 rfl (lv_room (Nat.le_of_ble_eq_true rfl)) dX15_addRoom_56 ⟨(Nat.le_of_ble_eq_true rfl), (Nat.le_of_ble_eq_true rfl)⟩) hS (fun q _ h => hFc q h) hFc (fun u q_8 t H1 locs1 ht hvm hw hB hz1 hk1 hS => ?_)
  try dsimp only at hB
  obtain ⟨hP, hD, hK⟩ := pst_join (wc := []) (wr := [(s0, .inr (20, [.ref l0, .ref l1, .ref l2, .ref l3, .ref l4, .ref l5, .ref l6, .ref l7, .ref l8, .int 10, .int 100, .int 50, .int 0, .int 0])), (l1, .inr (5, [.int 0, .ref (E 0), .int 0])), (l2, .inr (5, [.int 0, .ref (E 0), .int 0])), (l0, .inr (5, [.int 0, .ref (E 0), .int 0])), (x, .inr (21, [.ref s0, .int 0]))]) (w1 := [(q_8, .inr (1, [.int a]))]) (tr := []) (t1 := []) hP hD hK [] [0, 1, 2, 3, 4] [] rfl rfl rfl (by decide) (by decide) hk1 hFc ht hvm hB
  generalize H1 = H at hP hS ⊢
  have hP : va_P (dC, dI) vwCl [(s0, .inr (20, [.ref l0, .ref l1, .ref l2, .ref l3, .ref l4, .ref l5, .ref l6, .ref l7, .ref l8, .int 10, .int 100, .int 50, .int 0, .int 0])), (l1, .inr (5, [.int 0, .ref (E 0), .int 0])), (l2, .inr (5, [.int 0, .ref (E 0), .int 0])), (l0, .inr (5, [.int 0, .ref (E 0), .int 0])), (x, .inr (21, [.ref s0, .int 0])), (q_8, .inr (1, [.int a]))] H := hP
  have hD : va_D A [(s0, .inr (20, [.ref l0, .ref l1, .ref l2, .ref l3, .ref l4, .ref l5, .ref l6, .ref l7, .ref l8, .int 10, .int 100, .int 50, .int 0, .int 0])), (l1, .inr (5, [.int 0, .ref (E 0), .int 0])), (l2, .inr (5, [.int 0, .ref (E 0), .int 0])), (l0, .inr (5, [.int 0, .ref (E 0), .int 0])), (x, .inr (21, [.ref s0, .int 0])), (q_8, .inr (1, [.int a]))] := hD
  have hK : va_K (dC, dI) vwCl [] s := hK
  refine W.widen (k := 1) (n := 1) (Nat.le_of_ble_eq_true rfl) (Nat.le_of_ble_eq_true rfl) ?_
  have hPc := hP.sub (ws' := [(l0, .inr (5, [.int 0, .ref (E 0), .int 0])), (q_8, .inr (1, [.int a]))]) [3, 5] rfl
  have hDc := hD.sub (ws' := [(l0, .inr (5, [.int 0, .ref (E 0), .int 0])), (q_8, .inr (1, [.int a]))]) [3, 5] (by decide) rfl
  have hKc := hK.sub (tys' := []) [] rfl
  have hFc := va_free (wc := [(l0, .inr (5, [.int 0, .ref (E 0), .int 0])), (q_8, .inr (1, [.int a]))]) hD hS hA [3, 5] rfl
  refine va_callFi (va_runF (As := [.ref q_8]) (rest := []) (hK.1 5 _ rfl).2 ⟨hx, hb, hml, hown, hts⟩ (c_al_add1n l dC dI E l0 q_8 a H.size) (va_cwF 1 hts gX15_addRoom_Jx4a65c_add_9ea2d_f53Jx4a65c rfl rfl rfl hE.1.2.2.2.1 (by decide +kernel) ⟨(Nat.le_of_ble_eq_true rfl), (Nat.le_of_ble_eq_true rfl)⟩) ⟨pre_blind, va_recv hKc hPc (ci := 5) (q0 := 0) rfl rfl, pre_call hPc hDc hKc hFc hE hZ hS⟩ rfl rfl hl.1 rfl (lv_room (Nat.le_of_ble_eq_true rfl)) dX15_addRoom_59 ⟨(Nat.le_of_ble_eq_true rfl), (Nat.le_of_ble_eq_true rfl)⟩) hS (fun q _ h => hFc q h) hFc (fun r u t H1 locs1 ht hvm hw hB hz1 hk1 hS => ?_)
  obtain ⟨ra_10, hB⟩ := hB
  have hw9 : r = 1 := hw
  rw [hw9]
  obtain ⟨hP, hD, hK⟩ := pst_join (wc := [(l0, .inr (5, [.int 0, .ref (E 0), .int 0])), (q_8, .inr (1, [.int a]))]) (wr := [(s0, .inr (20, [.ref l0, .ref l1, .ref l2, .ref l3, .ref l4, .ref l5, .ref l6, .ref l7, .ref l8, .int 10, .int 100, .int 50, .int 0, .int 0])), (l1, .inr (5, [.int 0, .ref (E 0), .int 0])), (l2, .inr (5, [.int 0, .ref (E 0), .int 0])), (x, .inr (21, [.ref s0, .int 0]))]) (w1 := [(l0, .inr (5, [.int 1, .ref ra_10, .int 1]))]) (tr := []) (t1 := []) hP hD hK [3, 5] [0, 1, 2, 4] [] rfl rfl rfl (by decide) (by decide) hk1 hFc ht hvm hB
  generalize H1 = H at hP hS ⊢
  have hP : va_P (dC, dI) vwCl [(s0, .inr (20, [.ref l0, .ref l1, .ref l2, .ref l3, .ref l4, .ref l5, .ref l6, .ref l7, .ref l8, .int 10, .int 100, .int 50, .int 0, .int 0])), (l1, .inr (5, [.int 0, .ref (E 0), .int 0])), (l2, .inr (5, [.int 0, .ref (E 0), .int 0])), (x, .inr (21, [.ref s0, .int 0])), (l0, .inr (5, [.int 1, .ref ra_10, .int 1]))] H := hP
  have hD : va_D A [(s0, .inr (20, [.ref l0, .ref l1, .ref l2, .ref l3, .ref l4, .ref l5, .ref l6, .ref l7, .ref l8, .int 10, .int 100, .int 50, .int 0, .int 0])), (l1, .inr (5, [.int 0, .ref (E 0), .int 0])), (l2, .inr (5, [.int 0, .ref (E 0), .int 0])), (x, .inr (21, [.ref s0, .int 0])), (l0, .inr (5, [.int 1, .ref ra_10, .int 1]))] := hD
  have hK : va_K (dC, dI) vwCl [] s := hK
  refine W.widen (k := 2) (n := 11) (Nat.le_of_ble_eq_true rfl) (Nat.le_of_ble_eq_true rfl) ?_
  refine lv_pop hx hb dX15_addRoom_64 rfl ?_
  refine lv_aload_n hx hb dX15_addRoom_65 rfl (lv_at hl 0 rfl) ?_
  refine va_get (D := (dC, dI)) (ci := 21) (v := .ref s0) (C := RX15) (T := TX15) (N := 2) hx hb hts (by decide +kernel) hown hK hP 3 rfl rfl 0 (by decide) (hts (.fieldLink RX15 10 "OrbitdockModel" "station" "LOrbitdockModel$Station;") (by decide +kernel)) (fun _ h9 => h9) rfl dX15_addRoom_66 ?_
  refine va_get (D := (dC, dI)) (ci := 20) (v := .ref l1) (C := RX14) (T := TX14) (N := 14) hx hb hts (by decide +kernel) hown hK hP 0 rfl rfl 1 (by decide) (hts (.fieldLink RX15 57 "OrbitdockModel$Station" "carbon" "Ljava/util/List;") (by decide +kernel)) (fun _ h9 => h9) rfl dX15_addRoom_69 ?_
  refine lv_iconst (v := 0) hx hb dX15_addRoom_72 (by decide) ?_
  have hPc := hP.sub (ws' := []) [] rfl
  have hDc := hD.sub (ws' := []) [] (by decide) rfl
  have hKc := hK.sub (tys' := []) [] rfl
  have hFc := va_free (wc := []) hD hS hA [] rfl
  refine va_callr (va_runS (As := [.int 0]) (rest := [.ref l1]) ⟨hx, hb, hml, hown, hts⟩ (c_valueOf_c l dC dI E 0 H.size (by decide) (by decide)) (va_cwS 1 hts gX15_addRoom_J6_valueOf_2dffe rfl rfl rfl (by decide +kernel) ⟨(Nat.le_of_ble_eq_true rfl), (Nat.le_of_ble_eq_true rfl)⟩) ⟨pre_blind, pre_call hPc hDc hKc hFc hE hZ hS⟩ rfl rfl hl.1 rfl (lv_room (Nat.le_of_ble_eq_true rfl)) dX15_addRoom_73 ⟨(Nat.le_of_ble_eq_true rfl), (Nat.le_of_ble_eq_true rfl)⟩) hS (fun q _ h => hFc q h) hFc (fun u ra t H1 locs1 ht hvm hw hB hz1 hk1 hS => ?_)
  try dsimp only at hB
  obtain ⟨k_12, hra, hf0_13, hB⟩ := hB
  subst hra
  obtain ⟨hP, hD, hK⟩ := pst_join (wc := []) (wr := [(s0, .inr (20, [.ref l0, .ref l1, .ref l2, .ref l3, .ref l4, .ref l5, .ref l6, .ref l7, .ref l8, .int 10, .int 100, .int 50, .int 0, .int 0])), (l1, .inr (5, [.int 0, .ref (E 0), .int 0])), (l2, .inr (5, [.int 0, .ref (E 0), .int 0])), (x, .inr (21, [.ref s0, .int 0])), (l0, .inr (5, [.int 1, .ref ra_10, .int 1]))]) (w1 := []) (tr := []) (t1 := []) hP hD hK [] [0, 1, 2, 3, 4] [] rfl rfl rfl (by decide) (by decide) hk1 hFc ht hvm hB
  generalize H1 = H at hP hS ⊢
  have hP : va_P (dC, dI) vwCl [(s0, .inr (20, [.ref l0, .ref l1, .ref l2, .ref l3, .ref l4, .ref l5, .ref l6, .ref l7, .ref l8, .int 10, .int 100, .int 50, .int 0, .int 0])), (l1, .inr (5, [.int 0, .ref (E 0), .int 0])), (l2, .inr (5, [.int 0, .ref (E 0), .int 0])), (x, .inr (21, [.ref s0, .int 0])), (l0, .inr (5, [.int 1, .ref ra_10, .int 1]))] H := hP
  have hD : va_D A [(s0, .inr (20, [.ref l0, .ref l1, .ref l2, .ref l3, .ref l4, .ref l5, .ref l6, .ref l7, .ref l8, .int 10, .int 100, .int 50, .int 0, .int 0])), (l1, .inr (5, [.int 0, .ref (E 0), .int 0])), (l2, .inr (5, [.int 0, .ref (E 0), .int 0])), (x, .inr (21, [.ref s0, .int 0])), (l0, .inr (5, [.int 1, .ref ra_10, .int 1]))] := hD
  have hK : va_K (dC, dI) vwCl [] s := hK
  refine W.widen (k := 2) (n := 11) (Nat.le_of_ble_eq_true rfl) (Nat.le_of_ble_eq_true rfl) ?_
  have hPc := hP.sub (ws' := [(l1, .inr (5, [.int 0, .ref (E 0), .int 0]))]) [1] rfl
  have hDc := hD.sub (ws' := [(l1, .inr (5, [.int 0, .ref (E 0), .int 0]))]) [1] (by decide) rfl
  have hKc := hK.sub (tys' := []) [] rfl
  have hFc := va_free (wc := [(l1, .inr (5, [.int 0, .ref (E 0), .int 0]))]) hD hS hA [1] rfl
  refine va_callFi (va_runF (As := [.ref (E (100 + k_12))]) (rest := []) (hK.1 5 _ rfl).2 ⟨hx, hb, hml, hown, hts⟩ (c_al_add1c l dC dI E l1 k_12 H.size hf0_13) (va_cwF 1 hts gX15_addRoom_Jx4a65c_add_9ea2d_f53Jx4a65c rfl rfl rfl hE.1.2.2.2.1 (by decide +kernel) ⟨(Nat.le_of_ble_eq_true rfl), (Nat.le_of_ble_eq_true rfl)⟩) ⟨pre_blind, va_recv hKc hPc (ci := 5) (q0 := 0) rfl rfl, pre_call hPc hDc hKc hFc hE hZ hS⟩ rfl rfl hl.1 rfl (lv_room (Nat.le_of_ble_eq_true rfl)) dX15_addRoom_76 ⟨(Nat.le_of_ble_eq_true rfl), (Nat.le_of_ble_eq_true rfl)⟩) hS (fun q _ h => hFc q h) hFc (fun r u t H1 locs1 ht hvm hw hB hz1 hk1 hS => ?_)
  obtain ⟨ra_15, hB⟩ := hB
  have hw9 : r = 1 := hw
  rw [hw9]
  obtain ⟨hP, hD, hK⟩ := pst_join (wc := [(l1, .inr (5, [.int 0, .ref (E 0), .int 0]))]) (wr := [(s0, .inr (20, [.ref l0, .ref l1, .ref l2, .ref l3, .ref l4, .ref l5, .ref l6, .ref l7, .ref l8, .int 10, .int 100, .int 50, .int 0, .int 0])), (l2, .inr (5, [.int 0, .ref (E 0), .int 0])), (x, .inr (21, [.ref s0, .int 0])), (l0, .inr (5, [.int 1, .ref ra_10, .int 1]))]) (w1 := [(l1, .inr (5, [.int 1, .ref ra_15, .int 1]))]) (tr := []) (t1 := []) hP hD hK [1] [0, 2, 3, 4] [] rfl rfl rfl (by decide) (by decide) hk1 hFc ht hvm hB
  generalize H1 = H at hP hS ⊢
  have hP : va_P (dC, dI) vwCl [(s0, .inr (20, [.ref l0, .ref l1, .ref l2, .ref l3, .ref l4, .ref l5, .ref l6, .ref l7, .ref l8, .int 10, .int 100, .int 50, .int 0, .int 0])), (l2, .inr (5, [.int 0, .ref (E 0), .int 0])), (x, .inr (21, [.ref s0, .int 0])), (l0, .inr (5, [.int 1, .ref ra_10, .int 1])), (l1, .inr (5, [.int 1, .ref ra_15, .int 1]))] H := hP
  have hD : va_D A [(s0, .inr (20, [.ref l0, .ref l1, .ref l2, .ref l3, .ref l4, .ref l5, .ref l6, .ref l7, .ref l8, .int 10, .int 100, .int 50, .int 0, .int 0])), (l2, .inr (5, [.int 0, .ref (E 0), .int 0])), (x, .inr (21, [.ref s0, .int 0])), (l0, .inr (5, [.int 1, .ref ra_10, .int 1])), (l1, .inr (5, [.int 1, .ref ra_15, .int 1]))] := hD
  have hK : va_K (dC, dI) vwCl [] s := hK
  refine W.widen (k := 3) (n := 21) (Nat.le_of_ble_eq_true rfl) (Nat.le_of_ble_eq_true rfl) ?_
  refine lv_pop hx hb dX15_addRoom_81 rfl ?_
  refine lv_aload_n hx hb dX15_addRoom_82 rfl (lv_at hl 0 rfl) ?_
  refine va_get (D := (dC, dI)) (ci := 21) (v := .ref s0) (C := RX15) (T := TX15) (N := 2) hx hb hts (by decide +kernel) hown hK hP 2 rfl rfl 0 (by decide) (hts (.fieldLink RX15 10 "OrbitdockModel" "station" "LOrbitdockModel$Station;") (by decide +kernel)) (fun _ h9 => h9) rfl dX15_addRoom_83 ?_
  refine va_get (D := (dC, dI)) (ci := 20) (v := .ref l2) (C := RX14) (T := TX14) (N := 14) hx hb hts (by decide +kernel) hown hK hP 0 rfl rfl 2 (by decide) (hts (.fieldLink RX15 60 "OrbitdockModel$Station" "leaks" "Ljava/util/List;") (by decide +kernel)) (fun _ h9 => h9) rfl dX15_addRoom_86 ?_
  refine lv_iconst (v := 0) hx hb dX15_addRoom_89 (by decide) ?_
  have hPc := hP.sub (ws' := []) [] rfl
  have hDc := hD.sub (ws' := []) [] (by decide) rfl
  have hKc := hK.sub (tys' := []) [] rfl
  have hFc := va_free (wc := []) hD hS hA [] rfl
  refine va_callr (va_runS (As := [.int 0]) (rest := [.ref l2]) ⟨hx, hb, hml, hown, hts⟩ (c_valueOf_c l dC dI E 0 H.size (by decide) (by decide)) (va_cwS 1 hts gX15_addRoom_J6_valueOf_2dffe rfl rfl rfl (by decide +kernel) ⟨(Nat.le_of_ble_eq_true rfl), (Nat.le_of_ble_eq_true rfl)⟩) ⟨pre_blind, pre_call hPc hDc hKc hFc hE hZ hS⟩ rfl rfl hl.1 rfl (lv_room (Nat.le_of_ble_eq_true rfl)) dX15_addRoom_90 ⟨(Nat.le_of_ble_eq_true rfl), (Nat.le_of_ble_eq_true rfl)⟩) hS (fun q _ h => hFc q h) hFc (fun u ra t H1 locs1 ht hvm hw hB hz1 hk1 hS => ?_)
  try dsimp only at hB
  obtain ⟨k_17, hra, hf0_18, hB⟩ := hB
  subst hra
  obtain ⟨hP, hD, hK⟩ := pst_join (wc := []) (wr := [(s0, .inr (20, [.ref l0, .ref l1, .ref l2, .ref l3, .ref l4, .ref l5, .ref l6, .ref l7, .ref l8, .int 10, .int 100, .int 50, .int 0, .int 0])), (l2, .inr (5, [.int 0, .ref (E 0), .int 0])), (x, .inr (21, [.ref s0, .int 0])), (l0, .inr (5, [.int 1, .ref ra_10, .int 1])), (l1, .inr (5, [.int 1, .ref ra_15, .int 1]))]) (w1 := []) (tr := []) (t1 := []) hP hD hK [] [0, 1, 2, 3, 4] [] rfl rfl rfl (by decide) (by decide) hk1 hFc ht hvm hB
  generalize H1 = H at hP hS ⊢
  have hP : va_P (dC, dI) vwCl [(s0, .inr (20, [.ref l0, .ref l1, .ref l2, .ref l3, .ref l4, .ref l5, .ref l6, .ref l7, .ref l8, .int 10, .int 100, .int 50, .int 0, .int 0])), (l2, .inr (5, [.int 0, .ref (E 0), .int 0])), (x, .inr (21, [.ref s0, .int 0])), (l0, .inr (5, [.int 1, .ref ra_10, .int 1])), (l1, .inr (5, [.int 1, .ref ra_15, .int 1]))] H := hP
  have hD : va_D A [(s0, .inr (20, [.ref l0, .ref l1, .ref l2, .ref l3, .ref l4, .ref l5, .ref l6, .ref l7, .ref l8, .int 10, .int 100, .int 50, .int 0, .int 0])), (l2, .inr (5, [.int 0, .ref (E 0), .int 0])), (x, .inr (21, [.ref s0, .int 0])), (l0, .inr (5, [.int 1, .ref ra_10, .int 1])), (l1, .inr (5, [.int 1, .ref ra_15, .int 1]))] := hD
  have hK : va_K (dC, dI) vwCl [] s := hK
  refine W.widen (k := 3) (n := 21) (Nat.le_of_ble_eq_true rfl) (Nat.le_of_ble_eq_true rfl) ?_
  have hPc := hP.sub (ws' := [(l2, .inr (5, [.int 0, .ref (E 0), .int 0]))]) [1] rfl
  have hDc := hD.sub (ws' := [(l2, .inr (5, [.int 0, .ref (E 0), .int 0]))]) [1] (by decide) rfl
  have hKc := hK.sub (tys' := []) [] rfl
  have hFc := va_free (wc := [(l2, .inr (5, [.int 0, .ref (E 0), .int 0]))]) hD hS hA [1] rfl
  refine va_callFi (va_runF (As := [.ref (E (100 + k_17))]) (rest := []) (hK.1 5 _ rfl).2 ⟨hx, hb, hml, hown, hts⟩ (c_al_add1c l dC dI E l2 k_17 H.size hf0_18) (va_cwF 1 hts gX15_addRoom_Jx4a65c_add_9ea2d_f53Jx4a65c rfl rfl rfl hE.1.2.2.2.1 (by decide +kernel) ⟨(Nat.le_of_ble_eq_true rfl), (Nat.le_of_ble_eq_true rfl)⟩) ⟨pre_blind, va_recv hKc hPc (ci := 5) (q0 := 0) rfl rfl, pre_call hPc hDc hKc hFc hE hZ hS⟩ rfl rfl hl.1 rfl (lv_room (Nat.le_of_ble_eq_true rfl)) dX15_addRoom_93 ⟨(Nat.le_of_ble_eq_true rfl), (Nat.le_of_ble_eq_true rfl)⟩) hS (fun q _ h => hFc q h) hFc (fun r u t H1 locs1 ht hvm hw hB hz1 hk1 hS => ?_)
  obtain ⟨ra_20, hB⟩ := hB
  have hw9 : r = 1 := hw
  rw [hw9]
  obtain ⟨hP, hD, hK⟩ := pst_join (wc := [(l2, .inr (5, [.int 0, .ref (E 0), .int 0]))]) (wr := [(s0, .inr (20, [.ref l0, .ref l1, .ref l2, .ref l3, .ref l4, .ref l5, .ref l6, .ref l7, .ref l8, .int 10, .int 100, .int 50, .int 0, .int 0])), (x, .inr (21, [.ref s0, .int 0])), (l0, .inr (5, [.int 1, .ref ra_10, .int 1])), (l1, .inr (5, [.int 1, .ref ra_15, .int 1]))]) (w1 := [(l2, .inr (5, [.int 1, .ref ra_20, .int 1]))]) (tr := []) (t1 := []) hP hD hK [1] [0, 2, 3, 4] [] rfl rfl rfl (by decide) (by decide) hk1 hFc ht hvm hB
  generalize H1 = H at hP hS ⊢
  have hP : va_P (dC, dI) vwCl [(s0, .inr (20, [.ref l0, .ref l1, .ref l2, .ref l3, .ref l4, .ref l5, .ref l6, .ref l7, .ref l8, .int 10, .int 100, .int 50, .int 0, .int 0])), (x, .inr (21, [.ref s0, .int 0])), (l0, .inr (5, [.int 1, .ref ra_10, .int 1])), (l1, .inr (5, [.int 1, .ref ra_15, .int 1])), (l2, .inr (5, [.int 1, .ref ra_20, .int 1]))] H := hP
  have hD : va_D A [(s0, .inr (20, [.ref l0, .ref l1, .ref l2, .ref l3, .ref l4, .ref l5, .ref l6, .ref l7, .ref l8, .int 10, .int 100, .int 50, .int 0, .int 0])), (x, .inr (21, [.ref s0, .int 0])), (l0, .inr (5, [.int 1, .ref ra_10, .int 1])), (l1, .inr (5, [.int 1, .ref ra_15, .int 1])), (l2, .inr (5, [.int 1, .ref ra_20, .int 1]))] := hD
  have hK : va_K (dC, dI) vwCl [] s := hK
  refine W.widen (k := 4) (n := 31) (Nat.le_of_ble_eq_true rfl) (Nat.le_of_ble_eq_true rfl) ?_
  refine lv_pop hx hb dX15_addRoom_98 rfl ?_
  refine lv_aload_n hx hb dX15_addRoom_99 rfl (lv_at hl 0 rfl) ?_
  refine va_get (D := (dC, dI)) (ci := 21) (v := .ref s0) (C := RX15) (T := TX15) (N := 2) hx hb hts (by decide +kernel) hown hK hP 1 rfl rfl 0 (by decide) (hts (.fieldLink RX15 10 "OrbitdockModel" "station" "LOrbitdockModel$Station;") (by decide +kernel)) (fun _ h9 => h9) rfl dX15_addRoom_100 ?_
  refine va_get (D := (dC, dI)) (ci := 20) (v := .ref l0) (C := RX14) (T := TX14) (N := 14) hx hb hts (by decide +kernel) hown hK hP 0 rfl rfl 0 (by decide) (hts (.fieldLink RX15 20 "OrbitdockModel$Station" "oxygen" "Ljava/util/List;") (by decide +kernel)) (fun _ h9 => h9) rfl dX15_addRoom_103 ?_
  have hPc := hP.sub (ws' := [(l0, .inr (5, [.int 1, .ref ra_10, .int 1]))]) [2] rfl
  have hDc := hD.sub (ws' := [(l0, .inr (5, [.int 1, .ref ra_10, .int 1]))]) [2] (by decide) rfl
  have hKc := hK.sub (tys' := []) [] rfl
  have hFc := va_free (wc := [(l0, .inr (5, [.int 1, .ref ra_10, .int 1]))]) hD hS hA [2] rfl
  refine va_callFi (va_runF (As := []) (rest := []) (hK.1 5 _ rfl).2 ⟨hx, hb, hml, hown, hts⟩ (c_al_size l dC dI E l0 ra_10 1 1 H.size) (va_cwF 0 hts gX15_addRoom_Jx4a65c_size_8abf5_f24Jx4a65c rfl rfl rfl hE.1.1 (by decide +kernel) ⟨(Nat.le_of_ble_eq_true rfl), (Nat.le_of_ble_eq_true rfl)⟩) ⟨pre_blind, va_recv hKc hPc (ci := 5) (q0 := 0) rfl rfl, pre_call hPc hDc hKc hFc hE hZ hS⟩ rfl rfl hl.1 rfl (lv_room (Nat.le_of_ble_eq_true rfl)) dX15_addRoom_106 ⟨(Nat.le_of_ble_eq_true rfl), (Nat.le_of_ble_eq_true rfl)⟩) hS (fun q _ h => hFc q h) hFc (fun r u t H1 locs1 ht hvm hw hB hz1 hk1 hS => ?_)
  have hw9 : r = 1 := hw
  rw [hw9]
  obtain ⟨hP, hD, hK⟩ := pst_join (wc := [(l0, .inr (5, [.int 1, .ref ra_10, .int 1]))]) (wr := [(s0, .inr (20, [.ref l0, .ref l1, .ref l2, .ref l3, .ref l4, .ref l5, .ref l6, .ref l7, .ref l8, .int 10, .int 100, .int 50, .int 0, .int 0])), (x, .inr (21, [.ref s0, .int 0])), (l1, .inr (5, [.int 1, .ref ra_15, .int 1])), (l2, .inr (5, [.int 1, .ref ra_20, .int 1]))]) (w1 := [(l0, .inr (5, [.int 1, .ref ra_10, .int 1]))]) (tr := []) (t1 := []) hP hD hK [2] [0, 1, 3, 4] [] rfl rfl rfl (by decide) (by decide) hk1 hFc ht hvm hB
  generalize H1 = H at hP hS ⊢
  have hP : va_P (dC, dI) vwCl [(s0, .inr (20, [.ref l0, .ref l1, .ref l2, .ref l3, .ref l4, .ref l5, .ref l6, .ref l7, .ref l8, .int 10, .int 100, .int 50, .int 0, .int 0])), (x, .inr (21, [.ref s0, .int 0])), (l1, .inr (5, [.int 1, .ref ra_15, .int 1])), (l2, .inr (5, [.int 1, .ref ra_20, .int 1])), (l0, .inr (5, [.int 1, .ref ra_10, .int 1]))] H := hP
  have hD : va_D A [(s0, .inr (20, [.ref l0, .ref l1, .ref l2, .ref l3, .ref l4, .ref l5, .ref l6, .ref l7, .ref l8, .int 10, .int 100, .int 50, .int 0, .int 0])), (x, .inr (21, [.ref s0, .int 0])), (l1, .inr (5, [.int 1, .ref ra_15, .int 1])), (l2, .inr (5, [.int 1, .ref ra_20, .int 1])), (l0, .inr (5, [.int 1, .ref ra_10, .int 1]))] := hD
  have hK : va_K (dC, dI) vwCl [] s := hK
  refine W.widen (k := 4) (n := 31) (Nat.le_of_ble_eq_true rfl) (Nat.le_of_ble_eq_true rfl) ?_
  refine lv_iconst (v := 1) hx hb dX15_addRoom_111 (by decide) ?_
  refine lv_isub hx hb dX15_addRoom_112 ?_
  refine lv_topi (fun z_23 ez_23 => ?_)
  obtain rfl : z_23 = 0 := ez_23.trans (by decide)
  have hP9 := hP.sub (ws' := [(x, .inr (21, [.ref s0, .int 0]))]) [1] rfl
  have hD9 := hD.sub (ws' := [(x, .inr (21, [.ref s0, .int 0]))]) [1] (by decide) rfl
  have hK9 := hK.sub (tys' := []) [] rfl
  refine W.widen (k := 4) (n := 31) (Nat.le_of_ble_eq_true rfl) (Nat.le_of_ble_eq_true rfl) ?_
  exact W.iret (v := 0) hx hb hr (fun t ht hW => ⟨⟨0, (), rfl, rfl, pst_of hP9 hD9 hK9 ht hW⟩, hS.F ht⟩) hS.2.2 dX15_addRoom_113

set_option maxHeartbeats 4000000 in
set_option maxRecDepth 100000 in
theorem c_rm_addRoom_n (l : Launch) (dC : Nat → ClassId) (dI : Nat → Nat → Nat) (E : Nat → Nat) (x : Nat) (s0 : Nat) (l0 : Nat) (l1 : Nat) (l2 : Nat) (l3 : Nat) (l4 : Nat) (l5 : Nat) (l6 : Nat) (l7 : Nat) (l8 : Nat) (th : Int32) (a : Int32) (sz : Nat) (h : ¬ (¬ a < 0 ∧ ¬ 200 < a)) : Met l yX15_addRoom wsX15_addRoom ({ frames := 1, cells := 0, slots := 0, locals := 22 }) (va_Pc [.ref x, .int a] (pre dC dI E [(x, .inr (21, [.ref s0, .int th])), (s0, .inr (20, [.ref l0, .ref l1, .ref l2, .ref l3, .ref l4, .ref l5, .ref l6, .ref l7, .ref l8, .int 10, .int 100, .int 50, .int 0, .int 0]))] [] sz)) (va_Qi (fun (r : Int32) (_ : Unit) => r = 0) (fun _ t => pst dC dI (va_A [(x, .inr (21, [.ref s0, .int th])), (s0, .inr (20, [.ref l0, .ref l1, .ref l2, .ref l3, .ref l4, .ref l5, .ref l6, .ref l7, .ref l8, .int 10, .int 100, .int 50, .int 0, .int 0]))] sz) [(x, .inr (21, [.ref s0, .int 1]))] [] t) (va_A [(x, .inr (21, [.ref s0, .int th])), (s0, .inr (20, [.ref l0, .ref l1, .ref l2, .ref l3, .ref l4, .ref l5, .ref l6, .ref l7, .ref l8, .int 10, .int 100, .int 50, .int 0, .int 0]))] sz)) 0 0 (va_A [(x, .inr (21, [.ref s0, .int th])), (s0, .inr (20, [.ref l0, .ref l1, .ref l2, .ref l3, .ref l4, .ref l5, .ref l6, .ref l7, .ref l8, .int 10, .int 100, .int 50, .int 0, .int 0]))] sz) := by
  refine Met.ofW (cc := cX15_addRoom) (maxL := 2) (ret := (some .int)) (by decide) rfl ?_
  intro p e s m args below meth c s₁ B hml hv
  obtain ⟨rfl, hsz, hP, hK, hD0, hE, hZ0⟩ := hv
  have hx := B.exec
  have hb := B.bytes
  have hr := B.returns
  have hts := atoms_spec (ws := wsX15_addRoom) B.pre
  have hown : s.vm.findClass RX15 = some m.cls := findClass_of_methodNamed B.named
  have hlocks := B.notSynchronized
  subst hsz
  have hD := hD0.self (sz := s.heap.size)
  generalize hAe : va_A [(x, .inr (21, [.ref s0, .int th])), (s0, .inr (20, [.ref l0, .ref l1, .ref l2, .ref l3, .ref l4, .ref l5, .ref l6, .ref l7, .ref l8, .int 10, .int 100, .int 50, .int 0, .int 0]))] s.heap.size = A at hD hZ0 ⊢
  have hZ := hZ0
  have hA : ∀ q : Nat, s.heap.size ≤ q → A q := fun q h => by rw [← hAe]; exact Or.inr h
  have hS : va_S A s.heap s.heap [] := va_S.rf
  have hP : va_P (dC, dI) vwCl [(x, .inr (21, [.ref s0, .int th])), (s0, .inr (20, [.ref l0, .ref l1, .ref l2, .ref l3, .ref l4, .ref l5, .ref l6, .ref l7, .ref l8, .int 10, .int 100, .int 50, .int 0, .int 0]))] s.heap := hP
  have hl := lv_entry ([.ref x, .int a]) (n := 2) (Nat.le_of_ble_eq_true rfl)
  rw [lg_entry_eq]
  generalize (lg_sl ([.ref x, .int a]) ++ List.replicate (2 - (lg_sl ([.ref x, .int a])).length) Slot.unset).toArray = ls at hl ⊢
  have hl : lv_has ls 2 [(0, .ref x), (1, .int a)] := hl
  refine lv_aload_n hx hb dX15_addRoom_0 rfl (lv_at hl 0 rfl) ?_
  refine lv_iload_n hx hb dX15_addRoom_1 rfl (lv_at hl 1 rfl) ?_
  refine lv_iconst (v := 0) hx hb dX15_addRoom_2 (by decide) ?_
  refine lv_sipush (v := 200) hx hb dX15_addRoom_3 (by decide) ?_
  have hPc := hP.sub (ws' := []) [] rfl
  have hDc := hD.sub (ws' := []) [] (by decide) rfl
  have hKc := hK.sub (tys' := []) [] rfl
  have hFc := va_free (wc := []) hD hS hA [] rfl
  refine va_calli (va_runS (As := [.int a, .int 0, .int 200]) (rest := [.ref x]) ⟨hx, hb, hml, hown, hts⟩ (c_rm_isIn_n l dC dI E a 0 200 s.heap.size h) (va_cwS 3 hts gX15_addRoom_X15_isIn rfl rfl rfl (by decide +kernel) ⟨(Nat.le_of_ble_eq_true rfl), (Nat.le_of_ble_eq_true rfl)⟩) ⟨pre_blind, pre_call hPc hDc hKc hFc hE hZ hS⟩ rfl rfl hl.1 rfl (lv_room (Nat.le_of_ble_eq_true rfl)) dX15_addRoom_6 ⟨(Nat.le_of_ble_eq_true rfl), (Nat.le_of_ble_eq_true rfl)⟩) hS (fun q _ h => hFc q h) hFc (fun r u t H1 locs1 ht hvm hw hB hz1 hk1 hS => ?_)
  have hw9 : r = 0 := hw
  rw [hw9]
  obtain ⟨hP, hD, hK⟩ := pst_join (wc := []) (wr := [(x, .inr (21, [.ref s0, .int th])), (s0, .inr (20, [.ref l0, .ref l1, .ref l2, .ref l3, .ref l4, .ref l5, .ref l6, .ref l7, .ref l8, .int 10, .int 100, .int 50, .int 0, .int 0]))]) (w1 := []) (tr := []) (t1 := []) hP hD hK [] [0, 1] [] rfl rfl rfl (by decide) (by decide) hk1 hFc ht hvm hB
  generalize H1 = H at hP hS ⊢
  have hP : va_P (dC, dI) vwCl [(x, .inr (21, [.ref s0, .int th])), (s0, .inr (20, [.ref l0, .ref l1, .ref l2, .ref l3, .ref l4, .ref l5, .ref l6, .ref l7, .ref l8, .int 10, .int 100, .int 50, .int 0, .int 0]))] H := hP
  have hD : va_D A [(x, .inr (21, [.ref s0, .int th])), (s0, .inr (20, [.ref l0, .ref l1, .ref l2, .ref l3, .ref l4, .ref l5, .ref l6, .ref l7, .ref l8, .int 10, .int 100, .int 50, .int 0, .int 0]))] := hD
  have hK : va_K (dC, dI) vwCl [] s := hK
  refine W.widen (k := 0) (n := 0) (Nat.le_of_ble_eq_true rfl) (Nat.le_of_ble_eq_true rfl) ?_
  refine lv_iconst (v := 1) hx hb dX15_addRoom_9 (by decide) ?_
  have hPc := hP.sub (ws' := [(x, .inr (21, [.ref s0, .int th]))]) [0] rfl
  have hDc := hD.sub (ws' := [(x, .inr (21, [.ref s0, .int th]))]) [0] (by decide) rfl
  have hKc := hK.sub (tys' := []) [] rfl
  have hFc := va_free (wc := [(x, .inr (21, [.ref s0, .int th]))]) hD hS hA [0] rfl
  refine va_calli (va_runV (As := [.int 0, .int 1]) (rest := []) ⟨hx, hb, hml, hown, hts⟩ (c_rm_no_0 l dC dI E x s0 th 1 H.size) (cwV 2 hts gX15_addRoom_X15_no rfl rfl rfl (by decide +kernel) ⟨(Nat.le_of_ble_eq_true rfl), (Nat.le_of_ble_eq_true rfl)⟩) ⟨pre_blind, va_recv hKc hPc (ci := 21) (q0 := 0) rfl rfl, pre_call hPc hDc hKc hFc hE hZ hS⟩ rfl rfl hl.1 rfl (lv_room (Nat.le_of_ble_eq_true rfl)) dX15_addRoom_10 ⟨(Nat.le_of_ble_eq_true rfl), (Nat.le_of_ble_eq_true rfl)⟩) hS (fun q _ h => hFc q h) hFc (fun r u t H1 locs1 ht hvm hw hB hz1 hk1 hS => ?_)
  have hw9 : r = 1 := hw
  rw [hw9]
  obtain ⟨hP, hD, hK⟩ := pst_join (wc := [(x, .inr (21, [.ref s0, .int th]))]) (wr := [(s0, .inr (20, [.ref l0, .ref l1, .ref l2, .ref l3, .ref l4, .ref l5, .ref l6, .ref l7, .ref l8, .int 10, .int 100, .int 50, .int 0, .int 0]))]) (w1 := [(x, .inr (21, [.ref s0, .int 1]))]) (tr := []) (t1 := []) hP hD hK [0] [1] [] rfl rfl rfl (by decide) (by decide) hk1 hFc ht hvm hB
  generalize H1 = H at hP hS ⊢
  have hP : va_P (dC, dI) vwCl [(s0, .inr (20, [.ref l0, .ref l1, .ref l2, .ref l3, .ref l4, .ref l5, .ref l6, .ref l7, .ref l8, .int 10, .int 100, .int 50, .int 0, .int 0])), (x, .inr (21, [.ref s0, .int 1]))] H := hP
  have hD : va_D A [(s0, .inr (20, [.ref l0, .ref l1, .ref l2, .ref l3, .ref l4, .ref l5, .ref l6, .ref l7, .ref l8, .int 10, .int 100, .int 50, .int 0, .int 0])), (x, .inr (21, [.ref s0, .int 1]))] := hD
  have hK : va_K (dC, dI) vwCl [] s := hK
  refine W.widen (k := 0) (n := 0) (Nat.le_of_ble_eq_true rfl) (Nat.le_of_ble_eq_true rfl) ?_
  refine lv_if_ne (tgt := 46) hx hb dX15_addRoom_13 (by decide) (fun _ => ?_) (fun c9 => absurd c9 (by decide))
  refine lv_iconst (v := 0) hx hb dX15_addRoom_46 (by decide) ?_
  have hP9 := hP.sub (ws' := [(x, .inr (21, [.ref s0, .int 1]))]) [1] rfl
  have hD9 := hD.sub (ws' := [(x, .inr (21, [.ref s0, .int 1]))]) [1] (by decide) rfl
  have hK9 := hK.sub (tys' := []) [] rfl
  refine W.widen (k := 0) (n := 0) (Nat.le_of_ble_eq_true rfl) (Nat.le_of_ble_eq_true rfl) ?_
  exact W.iret (v := 0) hx hb hr (fun t ht hW => ⟨⟨0, (), rfl, rfl, pst_of hP9 hD9 hK9 ht hW⟩, hS.F ht⟩) hS.2.2 dX15_addRoom_47

set_option maxHeartbeats 4000000 in
set_option maxRecDepth 100000 in
theorem c_rm_approach_y (l : Launch) (dC : Nat → ClassId) (dI : Nat → Nat → Nat) (E : Nat → Nat) (x : Nat) (s0 : Nat) (l0 : Nat) (l1 : Nat) (l2 : Nat) (l3 : Nat) (l4 : Nat) (l5 : Nat) (l6 : Nat) (l7 : Nat) (l8 : Nat) (th : Int32) (a : Int32) (b : Int32) (sz : Nat) (hla1 : ¬ a < 1) (hua1 : ¬ 500 < a) (hla2 : ¬ b < 0) (hua2 : ¬ 99 < b) : Met l yX15_approach wsX15_approach ({ frames := 5, cells := 2, slots := 14, locals := 101 }) (va_Pc [.ref x, .int a, .int b] (pre dC dI E [(x, .inr (21, [.ref s0, .int th])), (s0, .inr (20, [.ref l0, .ref l1, .ref l2, .ref l3, .ref l4, .ref l5, .ref l6, .ref l7, .ref l8, .int 10, .int 100, .int 50, .int 0, .int 0])), (l6, .inr (5, [.int 0, .ref (E 0), .int 0]))] [] sz)) (va_Qi (fun (r : Int32) (_ : Unit) => r = 0) (fun _ t => pst dC dI (va_A [(x, .inr (21, [.ref s0, .int th])), (s0, .inr (20, [.ref l0, .ref l1, .ref l2, .ref l3, .ref l4, .ref l5, .ref l6, .ref l7, .ref l8, .int 10, .int 100, .int 50, .int 0, .int 0])), (l6, .inr (5, [.int 0, .ref (E 0), .int 0]))] sz) [(x, .inr (21, [.ref s0, .int 0]))] [] t) (va_A [(x, .inr (21, [.ref s0, .int th])), (s0, .inr (20, [.ref l0, .ref l1, .ref l2, .ref l3, .ref l4, .ref l5, .ref l6, .ref l7, .ref l8, .int 10, .int 100, .int 50, .int 0, .int 0])), (l6, .inr (5, [.int 0, .ref (E 0), .int 0]))] sz)) 2 14 (va_A [(x, .inr (21, [.ref s0, .int th])), (s0, .inr (20, [.ref l0, .ref l1, .ref l2, .ref l3, .ref l4, .ref l5, .ref l6, .ref l7, .ref l8, .int 10, .int 100, .int 50, .int 0, .int 0])), (l6, .inr (5, [.int 0, .ref (E 0), .int 0]))] sz) := by
  refine Met.ofW (cc := cX15_approach) (maxL := 3) (ret := (some .int)) (by decide) rfl ?_
  intro p e s m args below meth c s₁ B hml hv
  obtain ⟨rfl, hsz, hP, hK, hD0, hE, hZ0⟩ := hv
  have hx := B.exec
  have hb := B.bytes
  have hr := B.returns
  have hts := atoms_spec (ws := wsX15_approach) B.pre
  have hown : s.vm.findClass RX15 = some m.cls := findClass_of_methodNamed B.named
  have hlocks := B.notSynchronized
  subst hsz
  have hD := hD0.self (sz := s.heap.size)
  generalize hAe : va_A [(x, .inr (21, [.ref s0, .int th])), (s0, .inr (20, [.ref l0, .ref l1, .ref l2, .ref l3, .ref l4, .ref l5, .ref l6, .ref l7, .ref l8, .int 10, .int 100, .int 50, .int 0, .int 0])), (l6, .inr (5, [.int 0, .ref (E 0), .int 0]))] s.heap.size = A at hD hZ0 ⊢
  have hZ := hZ0
  have hA : ∀ q : Nat, s.heap.size ≤ q → A q := fun q h => by rw [← hAe]; exact Or.inr h
  have hS : va_S A s.heap s.heap [] := va_S.rf
  have hP : va_P (dC, dI) vwCl [(x, .inr (21, [.ref s0, .int th])), (s0, .inr (20, [.ref l0, .ref l1, .ref l2, .ref l3, .ref l4, .ref l5, .ref l6, .ref l7, .ref l8, .int 10, .int 100, .int 50, .int 0, .int 0])), (l6, .inr (5, [.int 0, .ref (E 0), .int 0]))] s.heap := hP
  have hl := lv_entry ([.ref x, .int a, .int b]) (n := 3) (Nat.le_of_ble_eq_true rfl)
  rw [lg_entry_eq]
  generalize (lg_sl ([.ref x, .int a, .int b]) ++ List.replicate (3 - (lg_sl ([.ref x, .int a, .int b])).length) Slot.unset).toArray = ls at hl ⊢
  have hl : lv_has ls 3 [(0, .ref x), (1, .int a), (2, .int b)] := hl
  refine lv_aload_n hx hb dX15_approach_0 rfl (lv_at hl 0 rfl) ?_
  refine lv_iload_n hx hb dX15_approach_1 rfl (lv_at hl 1 rfl) ?_
  refine lv_iconst (v := 1) hx hb dX15_approach_2 (by decide) ?_
  refine lv_sipush (v := 500) hx hb dX15_approach_3 (by decide) ?_
  have hPc := hP.sub (ws' := []) [] rfl
  have hDc := hD.sub (ws' := []) [] (by decide) rfl
  have hKc := hK.sub (tys' := []) [] rfl
  have hFc := va_free (wc := []) hD hS hA [] rfl
  refine va_calli (va_runS (As := [.int a, .int 1, .int 500]) (rest := [.ref x]) ⟨hx, hb, hml, hown, hts⟩ (c_rm_isIn_y l dC dI E a 1 500 s.heap.size hla1 hua1) (va_cwS 3 hts gX15_approach_X15_isIn rfl rfl rfl (by decide +kernel) ⟨(Nat.le_of_ble_eq_true rfl), (Nat.le_of_ble_eq_true rfl)⟩) ⟨pre_blind, pre_call hPc hDc hKc hFc hE hZ hS⟩ rfl rfl hl.1 rfl (lv_room (Nat.le_of_ble_eq_true rfl)) dX15_approach_6 ⟨(Nat.le_of_ble_eq_true rfl), (Nat.le_of_ble_eq_true rfl)⟩) hS (fun q _ h => hFc q h) hFc (fun r u t H1 locs1 ht hvm hw hB hz1 hk1 hS => ?_)
  have hw9 : r = 1 := hw
  rw [hw9]
  obtain ⟨hP, hD, hK⟩ := pst_join (wc := []) (wr := [(x, .inr (21, [.ref s0, .int th])), (s0, .inr (20, [.ref l0, .ref l1, .ref l2, .ref l3, .ref l4, .ref l5, .ref l6, .ref l7, .ref l8, .int 10, .int 100, .int 50, .int 0, .int 0])), (l6, .inr (5, [.int 0, .ref (E 0), .int 0]))]) (w1 := []) (tr := []) (t1 := []) hP hD hK [] [0, 1, 2] [] rfl rfl rfl (by decide) (by decide) hk1 hFc ht hvm hB
  generalize H1 = H at hP hS ⊢
  have hP : va_P (dC, dI) vwCl [(x, .inr (21, [.ref s0, .int th])), (s0, .inr (20, [.ref l0, .ref l1, .ref l2, .ref l3, .ref l4, .ref l5, .ref l6, .ref l7, .ref l8, .int 10, .int 100, .int 50, .int 0, .int 0])), (l6, .inr (5, [.int 0, .ref (E 0), .int 0]))] H := hP
  have hD : va_D A [(x, .inr (21, [.ref s0, .int th])), (s0, .inr (20, [.ref l0, .ref l1, .ref l2, .ref l3, .ref l4, .ref l5, .ref l6, .ref l7, .ref l8, .int 10, .int 100, .int 50, .int 0, .int 0])), (l6, .inr (5, [.int 0, .ref (E 0), .int 0]))] := hD
  have hK : va_K (dC, dI) vwCl [] s := hK
  refine W.widen (k := 0) (n := 0) (Nat.le_of_ble_eq_true rfl) (Nat.le_of_ble_eq_true rfl) ?_
  refine lv_if_eq (tgt := 26) hx hb dX15_approach_9 (by decide) (fun c9 => absurd c9 (by decide)) (fun _ => ?_)
  refine lv_iload_n hx hb dX15_approach_12 rfl (lv_at hl 2 rfl) ?_
  refine lv_iconst (v := 0) hx hb dX15_approach_13 (by decide) ?_
  refine lv_bipush (v := 99) hx hb dX15_approach_14 (by decide) ?_
  have hPc := hP.sub (ws' := []) [] rfl
  have hDc := hD.sub (ws' := []) [] (by decide) rfl
  have hKc := hK.sub (tys' := []) [] rfl
  have hFc := va_free (wc := []) hD hS hA [] rfl
  refine va_calli (va_runS (As := [.int b, .int 0, .int 99]) (rest := [.ref x]) ⟨hx, hb, hml, hown, hts⟩ (c_rm_isIn_y l dC dI E b 0 99 H.size hla2 hua2) (va_cwS 3 hts gX15_approach_X15_isIn rfl rfl rfl (by decide +kernel) ⟨(Nat.le_of_ble_eq_true rfl), (Nat.le_of_ble_eq_true rfl)⟩) ⟨pre_blind, pre_call hPc hDc hKc hFc hE hZ hS⟩ rfl rfl hl.1 rfl (lv_room (Nat.le_of_ble_eq_true rfl)) dX15_approach_16 ⟨(Nat.le_of_ble_eq_true rfl), (Nat.le_of_ble_eq_true rfl)⟩) hS (fun q _ h => hFc q h) hFc (fun r u t H1 locs1 ht hvm hw hB hz1 hk1 hS => ?_)
  have hw9 : r = 1 := hw
  rw [hw9]
  obtain ⟨hP, hD, hK⟩ := pst_join (wc := []) (wr := [(x, .inr (21, [.ref s0, .int th])), (s0, .inr (20, [.ref l0, .ref l1, .ref l2, .ref l3, .ref l4, .ref l5, .ref l6, .ref l7, .ref l8, .int 10, .int 100, .int 50, .int 0, .int 0])), (l6, .inr (5, [.int 0, .ref (E 0), .int 0]))]) (w1 := []) (tr := []) (t1 := []) hP hD hK [] [0, 1, 2] [] rfl rfl rfl (by decide) (by decide) hk1 hFc ht hvm hB
  generalize H1 = H at hP hS ⊢
  have hP : va_P (dC, dI) vwCl [(x, .inr (21, [.ref s0, .int th])), (s0, .inr (20, [.ref l0, .ref l1, .ref l2, .ref l3, .ref l4, .ref l5, .ref l6, .ref l7, .ref l8, .int 10, .int 100, .int 50, .int 0, .int 0])), (l6, .inr (5, [.int 0, .ref (E 0), .int 0]))] H := hP
  have hD : va_D A [(x, .inr (21, [.ref s0, .int th])), (s0, .inr (20, [.ref l0, .ref l1, .ref l2, .ref l3, .ref l4, .ref l5, .ref l6, .ref l7, .ref l8, .int 10, .int 100, .int 50, .int 0, .int 0])), (l6, .inr (5, [.int 0, .ref (E 0), .int 0]))] := hD
  have hK : va_K (dC, dI) vwCl [] s := hK
  refine W.widen (k := 0) (n := 0) (Nat.le_of_ble_eq_true rfl) (Nat.le_of_ble_eq_true rfl) ?_
  refine lv_if_eq (tgt := 26) hx hb dX15_approach_19 (by decide) (fun c9 => absurd c9 (by decide)) (fun _ => ?_)
  refine lv_iconst (v := 1) hx hb dX15_approach_22 (by decide) ?_
  refine lv_goto (tgt := 27) hx hb dX15_approach_23 (by decide) ?_
  refine lv_iconst (v := 1) hx hb dX15_approach_27 (by decide) ?_
  have hPc := hP.sub (ws' := [(x, .inr (21, [.ref s0, .int th]))]) [0] rfl
  have hDc := hD.sub (ws' := [(x, .inr (21, [.ref s0, .int th]))]) [0] (by decide) rfl
  have hKc := hK.sub (tys' := []) [] rfl
  have hFc := va_free (wc := [(x, .inr (21, [.ref s0, .int th]))]) hD hS hA [0] rfl
  refine va_calli (va_runV (As := [.int 1, .int 1]) (rest := []) ⟨hx, hb, hml, hown, hts⟩ (c_rm_no_1 l dC dI E x s0 th 1 H.size) (cwV 2 hts gX15_approach_X15_no rfl rfl rfl (by decide +kernel) ⟨(Nat.le_of_ble_eq_true rfl), (Nat.le_of_ble_eq_true rfl)⟩) ⟨pre_blind, va_recv hKc hPc (ci := 21) (q0 := 0) rfl rfl, pre_call hPc hDc hKc hFc hE hZ hS⟩ rfl rfl hl.1 rfl (lv_room (Nat.le_of_ble_eq_true rfl)) dX15_approach_28 ⟨(Nat.le_of_ble_eq_true rfl), (Nat.le_of_ble_eq_true rfl)⟩) hS (fun q _ h => hFc q h) hFc (fun r u t H1 locs1 ht hvm hw hB hz1 hk1 hS => ?_)
  have hw9 : r = 0 := hw
  rw [hw9]
  obtain ⟨hP, hD, hK⟩ := pst_join (wc := [(x, .inr (21, [.ref s0, .int th]))]) (wr := [(s0, .inr (20, [.ref l0, .ref l1, .ref l2, .ref l3, .ref l4, .ref l5, .ref l6, .ref l7, .ref l8, .int 10, .int 100, .int 50, .int 0, .int 0])), (l6, .inr (5, [.int 0, .ref (E 0), .int 0]))]) (w1 := [(x, .inr (21, [.ref s0, .int 0]))]) (tr := []) (t1 := []) hP hD hK [0] [1, 2] [] rfl rfl rfl (by decide) (by decide) hk1 hFc ht hvm hB
  generalize H1 = H at hP hS ⊢
  have hP : va_P (dC, dI) vwCl [(s0, .inr (20, [.ref l0, .ref l1, .ref l2, .ref l3, .ref l4, .ref l5, .ref l6, .ref l7, .ref l8, .int 10, .int 100, .int 50, .int 0, .int 0])), (l6, .inr (5, [.int 0, .ref (E 0), .int 0])), (x, .inr (21, [.ref s0, .int 0]))] H := hP
  have hD : va_D A [(s0, .inr (20, [.ref l0, .ref l1, .ref l2, .ref l3, .ref l4, .ref l5, .ref l6, .ref l7, .ref l8, .int 10, .int 100, .int 50, .int 0, .int 0])), (l6, .inr (5, [.int 0, .ref (E 0), .int 0])), (x, .inr (21, [.ref s0, .int 0]))] := hD
  have hK : va_K (dC, dI) vwCl [] s := hK
  refine W.widen (k := 0) (n := 0) (Nat.le_of_ble_eq_true rfl) (Nat.le_of_ble_eq_true rfl) ?_
  refine lv_if_ne (tgt := 63) hx hb dX15_approach_31 (by decide) (fun c9 => absurd (by decide) c9) (fun _ => ?_)
  refine lv_aload_n hx hb dX15_approach_34 rfl (lv_at hl 0 rfl) ?_
  refine lv_aload_n hx hb dX15_approach_35 rfl (lv_at hl 0 rfl) ?_
  refine va_get (D := (dC, dI)) (ci := 21) (v := .ref s0) (C := RX15) (T := TX15) (N := 2) hx hb hts (by decide +kernel) hown hK hP 2 rfl rfl 0 (by decide) (hts (.fieldLink RX15 10 "OrbitdockModel" "station" "LOrbitdockModel$Station;") (by decide +kernel)) (fun _ h9 => h9) rfl dX15_approach_36 ?_
  refine va_get (D := (dC, dI)) (ci := 20) (v := .ref l6) (C := RX14) (T := TX14) (N := 14) hx hb hts (by decide +kernel) hown hK hP 0 rfl rfl 6 (by decide) (hts (.fieldLink RX15 156 "OrbitdockModel$Station" "ships" "Ljava/util/List;") (by decide +kernel)) (fun _ h9 => h9) rfl dX15_approach_39 ?_
  have hPc := hP.sub (ws' := [(l6, .inr (5, [.int 0, .ref (E 0), .int 0]))]) [1] rfl
  have hDc := hD.sub (ws' := [(l6, .inr (5, [.int 0, .ref (E 0), .int 0]))]) [1] (by decide) rfl
  have hKc := hK.sub (tys' := []) [] rfl
  have hFc := va_free (wc := [(l6, .inr (5, [.int 0, .ref (E 0), .int 0]))]) hD hS hA [1] rfl
  refine va_callFi (va_runF (As := []) (rest := [.ref x]) (hK.1 5 _ rfl).2 ⟨hx, hb, hml, hown, hts⟩ (c_al_size l dC dI E l6 (E 0) 0 0 H.size) (va_cwF 0 hts gX15_approach_Jx4a65c_size_8abf5_f24Jx4a65c rfl rfl rfl hE.1.1 (by decide +kernel) ⟨(Nat.le_of_ble_eq_true rfl), (Nat.le_of_ble_eq_true rfl)⟩) ⟨pre_blind, va_recv hKc hPc (ci := 5) (q0 := 0) rfl rfl, pre_call hPc hDc hKc hFc hE hZ hS⟩ rfl rfl hl.1 rfl (lv_room (Nat.le_of_ble_eq_true rfl)) dX15_approach_42 ⟨(Nat.le_of_ble_eq_true rfl), (Nat.le_of_ble_eq_true rfl)⟩) hS (fun q _ h => hFc q h) hFc (fun r u t H1 locs1 ht hvm hw hB hz1 hk1 hS => ?_)
  have hw9 : r = 0 := hw
  rw [hw9]
  obtain ⟨hP, hD, hK⟩ := pst_join (wc := [(l6, .inr (5, [.int 0, .ref (E 0), .int 0]))]) (wr := [(s0, .inr (20, [.ref l0, .ref l1, .ref l2, .ref l3, .ref l4, .ref l5, .ref l6, .ref l7, .ref l8, .int 10, .int 100, .int 50, .int 0, .int 0])), (x, .inr (21, [.ref s0, .int 0]))]) (w1 := [(l6, .inr (5, [.int 0, .ref (E 0), .int 0]))]) (tr := []) (t1 := []) hP hD hK [1] [0, 2] [] rfl rfl rfl (by decide) (by decide) hk1 hFc ht hvm hB
  generalize H1 = H at hP hS ⊢
  have hP : va_P (dC, dI) vwCl [(s0, .inr (20, [.ref l0, .ref l1, .ref l2, .ref l3, .ref l4, .ref l5, .ref l6, .ref l7, .ref l8, .int 10, .int 100, .int 50, .int 0, .int 0])), (x, .inr (21, [.ref s0, .int 0])), (l6, .inr (5, [.int 0, .ref (E 0), .int 0]))] H := hP
  have hD : va_D A [(s0, .inr (20, [.ref l0, .ref l1, .ref l2, .ref l3, .ref l4, .ref l5, .ref l6, .ref l7, .ref l8, .int 10, .int 100, .int 50, .int 0, .int 0])), (x, .inr (21, [.ref s0, .int 0])), (l6, .inr (5, [.int 0, .ref (E 0), .int 0]))] := hD
  have hK : va_K (dC, dI) vwCl [] s := hK
  refine W.widen (k := 0) (n := 0) (Nat.le_of_ble_eq_true rfl) (Nat.le_of_ble_eq_true rfl) ?_
  refine lv_iconst (v := 4) hx hb dX15_approach_47 (by decide) ?_
  refine lv_icmp_ge (tgt := 55) hx hb dX15_approach_48 (by decide) (fun c9 => absurd c9 (by decide)) (fun _ => ?_)
  refine lv_iconst (v := 1) hx hb dX15_approach_51 (by decide) ?_
  refine lv_goto (tgt := 56) hx hb dX15_approach_52 (by decide) ?_
  refine lv_iconst (v := 2) hx hb dX15_approach_56 (by decide) ?_
  have hPc := hP.sub (ws' := [(x, .inr (21, [.ref s0, .int 0]))]) [1] rfl
  have hDc := hD.sub (ws' := [(x, .inr (21, [.ref s0, .int 0]))]) [1] (by decide) rfl
  have hKc := hK.sub (tys' := []) [] rfl
  have hFc := va_free (wc := [(x, .inr (21, [.ref s0, .int 0]))]) hD hS hA [1] rfl
  refine va_calli (va_runV (As := [.int 1, .int 2]) (rest := []) ⟨hx, hb, hml, hown, hts⟩ (c_rm_no_1 l dC dI E x s0 0 2 H.size) (cwV 2 hts gX15_approach_X15_no rfl rfl rfl (by decide +kernel) ⟨(Nat.le_of_ble_eq_true rfl), (Nat.le_of_ble_eq_true rfl)⟩) ⟨pre_blind, va_recv hKc hPc (ci := 21) (q0 := 0) rfl rfl, pre_call hPc hDc hKc hFc hE hZ hS⟩ rfl rfl hl.1 rfl (lv_room (Nat.le_of_ble_eq_true rfl)) dX15_approach_57 ⟨(Nat.le_of_ble_eq_true rfl), (Nat.le_of_ble_eq_true rfl)⟩) hS (fun q _ h => hFc q h) hFc (fun r u t H1 locs1 ht hvm hw hB hz1 hk1 hS => ?_)
  have hw9 : r = 0 := hw
  rw [hw9]
  obtain ⟨hP, hD, hK⟩ := pst_join (wc := [(x, .inr (21, [.ref s0, .int 0]))]) (wr := [(s0, .inr (20, [.ref l0, .ref l1, .ref l2, .ref l3, .ref l4, .ref l5, .ref l6, .ref l7, .ref l8, .int 10, .int 100, .int 50, .int 0, .int 0])), (l6, .inr (5, [.int 0, .ref (E 0), .int 0]))]) (w1 := [(x, .inr (21, [.ref s0, .int 0]))]) (tr := []) (t1 := []) hP hD hK [1] [0, 2] [] rfl rfl rfl (by decide) (by decide) hk1 hFc ht hvm hB
  generalize H1 = H at hP hS ⊢
  have hP : va_P (dC, dI) vwCl [(s0, .inr (20, [.ref l0, .ref l1, .ref l2, .ref l3, .ref l4, .ref l5, .ref l6, .ref l7, .ref l8, .int 10, .int 100, .int 50, .int 0, .int 0])), (l6, .inr (5, [.int 0, .ref (E 0), .int 0])), (x, .inr (21, [.ref s0, .int 0]))] H := hP
  have hD : va_D A [(s0, .inr (20, [.ref l0, .ref l1, .ref l2, .ref l3, .ref l4, .ref l5, .ref l6, .ref l7, .ref l8, .int 10, .int 100, .int 50, .int 0, .int 0])), (l6, .inr (5, [.int 0, .ref (E 0), .int 0])), (x, .inr (21, [.ref s0, .int 0]))] := hD
  have hK : va_K (dC, dI) vwCl [] s := hK
  refine W.widen (k := 0) (n := 0) (Nat.le_of_ble_eq_true rfl) (Nat.le_of_ble_eq_true rfl) ?_
  refine lv_if_eq (tgt := 65) hx hb dX15_approach_60 (by decide) (fun _ => ?_) (fun c9 => absurd (by decide) c9)
  refine lv_aload_n hx hb dX15_approach_65 rfl (lv_at hl 0 rfl) ?_
  refine va_get (D := (dC, dI)) (ci := 21) (v := .ref s0) (C := RX15) (T := TX15) (N := 2) hx hb hts (by decide +kernel) hown hK hP 2 rfl rfl 0 (by decide) (hts (.fieldLink RX15 10 "OrbitdockModel" "station" "LOrbitdockModel$Station;") (by decide +kernel)) (fun _ h9 => h9) rfl dX15_approach_66 ?_
  refine va_get (D := (dC, dI)) (ci := 20) (v := .ref l6) (C := RX14) (T := TX14) (N := 14) hx hb hts (by decide +kernel) hown hK hP 0 rfl rfl 6 (by decide) (hts (.fieldLink RX15 156 "OrbitdockModel$Station" "ships" "Ljava/util/List;") (by decide +kernel)) (fun _ h9 => h9) rfl dX15_approach_69 ?_
  refine va_new (ci := 19) (fs := [.int 0, .int 0, .int 0, .int 0]) (C := RX13) (T := TX13) (N := 4) hx hb hts (by decide +kernel) tyX13 tyX13_ok hown (hts (.classLink RX15 159 RX13) (by decide +kernel)) (hts (.instantiable RX13 4) (by decide +kernel)) (hts (.initialized RX13) (by decide +kernel)) hK hP hD hS hA rfl (fun j hj => by rcases (show j = 0 ∨ j = 1 ∨ j = 2 ∨ j = 3 by omega) with rfl | rfl | rfl | rfl <;> rfl) (Nat.le_of_ble_eq_true rfl) (Nat.le_of_ble_eq_true rfl) dX15_approach_72 (fun q_11 H hP hD hS => ?_)
  have hP : va_P (dC, dI) vwCl [(s0, .inr (20, [.ref l0, .ref l1, .ref l2, .ref l3, .ref l4, .ref l5, .ref l6, .ref l7, .ref l8, .int 10, .int 100, .int 50, .int 0, .int 0])), (l6, .inr (5, [.int 0, .ref (E 0), .int 0])), (x, .inr (21, [.ref s0, .int 0])), (q_11, .inr (19, [.int 0, .int 0, .int 0, .int 0]))] H := hP
  have hD : va_D A [(s0, .inr (20, [.ref l0, .ref l1, .ref l2, .ref l3, .ref l4, .ref l5, .ref l6, .ref l7, .ref l8, .int 10, .int 100, .int 50, .int 0, .int 0])), (l6, .inr (5, [.int 0, .ref (E 0), .int 0])), (x, .inr (21, [.ref s0, .int 0])), (q_11, .inr (19, [.int 0, .int 0, .int 0, .int 0]))] := hD
  refine W.widen (k := 1) (n := 4) (Nat.le_of_ble_eq_true rfl) (Nat.le_of_ble_eq_true rfl) ?_
  refine lv_dup hx hb dX15_approach_75 rfl ?_
  refine lv_iload_n hx hb dX15_approach_76 rfl (lv_at hl 1 rfl) ?_
  refine lv_iload_n hx hb dX15_approach_77 rfl (lv_at hl 2 rfl) ?_
  have hPc := hP.sub (ws' := [(q_11, .inr (19, [.int 0, .int 0, .int 0, .int 0]))]) [3] rfl
  have hDc := hD.sub (ws' := [(q_11, .inr (19, [.int 0, .int 0, .int 0, .int 0]))]) [3] (by decide) rfl
  have hKc := hK.sub (tys' := []) [] rfl
  have hFc := va_free (wc := [(q_11, .inr (19, [.int 0, .int 0, .int 0, .int 0]))]) hD hS hA [3] rfl
  refine va_callv (va_runI (As := [.int a, .int b]) (rest := [.ref q_11, .ref l6]) ⟨hx, hb, hml, hown, hts⟩ (c_ship_init l dC dI E q_11 a b H.size) (cwI 2 hts gX15_approach_X13_init rfl rfl rfl (hts (.initialized RX13) (by decide +kernel)) (hts (.methodLink RX15 161 yX13_init) (by decide +kernel)) (hts (.instanceMethod yX13_init) (by decide +kernel)) rfl (by decide +kernel) ⟨(Nat.le_of_ble_eq_true rfl), (Nat.le_of_ble_eq_true rfl)⟩) ⟨pre_blind, pre_call hPc hDc hKc hFc hE hZ hS⟩ rfl rfl hl.1 rfl (lv_room (Nat.le_of_ble_eq_true rfl)) dX15_approach_78 ⟨(Nat.le_of_ble_eq_true rfl), (Nat.le_of_ble_eq_true rfl)⟩) hS (fun q _ h => hFc q h) hFc (fun u t H1 locs1 ht hvm hw hB hz1 hk1 hS => ?_)
  obtain ⟨hP, hD, hK⟩ := pst_join (wc := [(q_11, .inr (19, [.int 0, .int 0, .int 0, .int 0]))]) (wr := [(s0, .inr (20, [.ref l0, .ref l1, .ref l2, .ref l3, .ref l4, .ref l5, .ref l6, .ref l7, .ref l8, .int 10, .int 100, .int 50, .int 0, .int 0])), (l6, .inr (5, [.int 0, .ref (E 0), .int 0])), (x, .inr (21, [.ref s0, .int 0]))]) (w1 := [(q_11, .inr (19, [.int a, .int 0, .int 20, .int b]))]) (tr := []) (t1 := []) hP hD hK [3] [0, 1, 2] [] rfl rfl rfl (by decide) (by decide) hk1 hFc ht hvm hB
  generalize H1 = H at hP hS ⊢
  have hP : va_P (dC, dI) vwCl [(s0, .inr (20, [.ref l0, .ref l1, .ref l2, .ref l3, .ref l4, .ref l5, .ref l6, .ref l7, .ref l8, .int 10, .int 100, .int 50, .int 0, .int 0])), (l6, .inr (5, [.int 0, .ref (E 0), .int 0])), (x, .inr (21, [.ref s0, .int 0])), (q_11, .inr (19, [.int a, .int 0, .int 20, .int b]))] H := hP
  have hD : va_D A [(s0, .inr (20, [.ref l0, .ref l1, .ref l2, .ref l3, .ref l4, .ref l5, .ref l6, .ref l7, .ref l8, .int 10, .int 100, .int 50, .int 0, .int 0])), (l6, .inr (5, [.int 0, .ref (E 0), .int 0])), (x, .inr (21, [.ref s0, .int 0])), (q_11, .inr (19, [.int a, .int 0, .int 20, .int b]))] := hD
  have hK : va_K (dC, dI) vwCl [] s := hK
  refine W.widen (k := 1) (n := 4) (Nat.le_of_ble_eq_true rfl) (Nat.le_of_ble_eq_true rfl) ?_
  have hPc := hP.sub (ws' := [(l6, .inr (5, [.int 0, .ref (E 0), .int 0])), (q_11, .inr (19, [.int a, .int 0, .int 20, .int b]))]) [1, 3] rfl
  have hDc := hD.sub (ws' := [(l6, .inr (5, [.int 0, .ref (E 0), .int 0])), (q_11, .inr (19, [.int a, .int 0, .int 20, .int b]))]) [1, 3] (by decide) rfl
  have hKc := hK.sub (tys' := []) [] rfl
  have hFc := va_free (wc := [(l6, .inr (5, [.int 0, .ref (E 0), .int 0])), (q_11, .inr (19, [.int a, .int 0, .int 20, .int b]))]) hD hS hA [1, 3] rfl
  refine va_callFi (va_runF (As := [.ref q_11]) (rest := []) (hK.1 5 _ rfl).2 ⟨hx, hb, hml, hown, hts⟩ (c_al_add1s l dC dI E l6 q_11 a b H.size) (va_cwF 1 hts gX15_approach_Jx4a65c_add_9ea2d_f53Jx4a65c rfl rfl rfl hE.1.2.2.2.1 (by decide +kernel) ⟨(Nat.le_of_ble_eq_true rfl), (Nat.le_of_ble_eq_true rfl)⟩) ⟨pre_blind, va_recv hKc hPc (ci := 5) (q0 := 0) rfl rfl, pre_call hPc hDc hKc hFc hE hZ hS⟩ rfl rfl hl.1 rfl (lv_room (Nat.le_of_ble_eq_true rfl)) dX15_approach_81 ⟨(Nat.le_of_ble_eq_true rfl), (Nat.le_of_ble_eq_true rfl)⟩) hS (fun q _ h => hFc q h) hFc (fun r u t H1 locs1 ht hvm hw hB hz1 hk1 hS => ?_)
  obtain ⟨ra_13, hB⟩ := hB
  have hw9 : r = 1 := hw
  rw [hw9]
  obtain ⟨hP, hD, hK⟩ := pst_join (wc := [(l6, .inr (5, [.int 0, .ref (E 0), .int 0])), (q_11, .inr (19, [.int a, .int 0, .int 20, .int b]))]) (wr := [(s0, .inr (20, [.ref l0, .ref l1, .ref l2, .ref l3, .ref l4, .ref l5, .ref l6, .ref l7, .ref l8, .int 10, .int 100, .int 50, .int 0, .int 0])), (x, .inr (21, [.ref s0, .int 0]))]) (w1 := [(l6, .inr (5, [.int 1, .ref ra_13, .int 1]))]) (tr := []) (t1 := []) hP hD hK [1, 3] [0, 2] [] rfl rfl rfl (by decide) (by decide) hk1 hFc ht hvm hB
  generalize H1 = H at hP hS ⊢
  have hP : va_P (dC, dI) vwCl [(s0, .inr (20, [.ref l0, .ref l1, .ref l2, .ref l3, .ref l4, .ref l5, .ref l6, .ref l7, .ref l8, .int 10, .int 100, .int 50, .int 0, .int 0])), (x, .inr (21, [.ref s0, .int 0])), (l6, .inr (5, [.int 1, .ref ra_13, .int 1]))] H := hP
  have hD : va_D A [(s0, .inr (20, [.ref l0, .ref l1, .ref l2, .ref l3, .ref l4, .ref l5, .ref l6, .ref l7, .ref l8, .int 10, .int 100, .int 50, .int 0, .int 0])), (x, .inr (21, [.ref s0, .int 0])), (l6, .inr (5, [.int 1, .ref ra_13, .int 1]))] := hD
  have hK : va_K (dC, dI) vwCl [] s := hK
  refine W.widen (k := 2) (n := 14) (Nat.le_of_ble_eq_true rfl) (Nat.le_of_ble_eq_true rfl) ?_
  refine lv_pop hx hb dX15_approach_86 rfl ?_
  refine lv_aload_n hx hb dX15_approach_87 rfl (lv_at hl 0 rfl) ?_
  refine va_get (D := (dC, dI)) (ci := 21) (v := .ref s0) (C := RX15) (T := TX15) (N := 2) hx hb hts (by decide +kernel) hown hK hP 1 rfl rfl 0 (by decide) (hts (.fieldLink RX15 10 "OrbitdockModel" "station" "LOrbitdockModel$Station;") (by decide +kernel)) (fun _ h9 => h9) rfl dX15_approach_88 ?_
  refine va_get (D := (dC, dI)) (ci := 20) (v := .ref l6) (C := RX14) (T := TX14) (N := 14) hx hb hts (by decide +kernel) hown hK hP 0 rfl rfl 6 (by decide) (hts (.fieldLink RX15 156 "OrbitdockModel$Station" "ships" "Ljava/util/List;") (by decide +kernel)) (fun _ h9 => h9) rfl dX15_approach_91 ?_
  have hPc := hP.sub (ws' := [(l6, .inr (5, [.int 1, .ref ra_13, .int 1]))]) [2] rfl
  have hDc := hD.sub (ws' := [(l6, .inr (5, [.int 1, .ref ra_13, .int 1]))]) [2] (by decide) rfl
  have hKc := hK.sub (tys' := []) [] rfl
  have hFc := va_free (wc := [(l6, .inr (5, [.int 1, .ref ra_13, .int 1]))]) hD hS hA [2] rfl
  refine va_callFi (va_runF (As := []) (rest := []) (hK.1 5 _ rfl).2 ⟨hx, hb, hml, hown, hts⟩ (c_al_size l dC dI E l6 ra_13 1 1 H.size) (va_cwF 0 hts gX15_approach_Jx4a65c_size_8abf5_f24Jx4a65c rfl rfl rfl hE.1.1 (by decide +kernel) ⟨(Nat.le_of_ble_eq_true rfl), (Nat.le_of_ble_eq_true rfl)⟩) ⟨pre_blind, va_recv hKc hPc (ci := 5) (q0 := 0) rfl rfl, pre_call hPc hDc hKc hFc hE hZ hS⟩ rfl rfl hl.1 rfl (lv_room (Nat.le_of_ble_eq_true rfl)) dX15_approach_94 ⟨(Nat.le_of_ble_eq_true rfl), (Nat.le_of_ble_eq_true rfl)⟩) hS (fun q _ h => hFc q h) hFc (fun r u t H1 locs1 ht hvm hw hB hz1 hk1 hS => ?_)
  have hw9 : r = 1 := hw
  rw [hw9]
  obtain ⟨hP, hD, hK⟩ := pst_join (wc := [(l6, .inr (5, [.int 1, .ref ra_13, .int 1]))]) (wr := [(s0, .inr (20, [.ref l0, .ref l1, .ref l2, .ref l3, .ref l4, .ref l5, .ref l6, .ref l7, .ref l8, .int 10, .int 100, .int 50, .int 0, .int 0])), (x, .inr (21, [.ref s0, .int 0]))]) (w1 := [(l6, .inr (5, [.int 1, .ref ra_13, .int 1]))]) (tr := []) (t1 := []) hP hD hK [2] [0, 1] [] rfl rfl rfl (by decide) (by decide) hk1 hFc ht hvm hB
  generalize H1 = H at hP hS ⊢
  have hP : va_P (dC, dI) vwCl [(s0, .inr (20, [.ref l0, .ref l1, .ref l2, .ref l3, .ref l4, .ref l5, .ref l6, .ref l7, .ref l8, .int 10, .int 100, .int 50, .int 0, .int 0])), (x, .inr (21, [.ref s0, .int 0])), (l6, .inr (5, [.int 1, .ref ra_13, .int 1]))] H := hP
  have hD : va_D A [(s0, .inr (20, [.ref l0, .ref l1, .ref l2, .ref l3, .ref l4, .ref l5, .ref l6, .ref l7, .ref l8, .int 10, .int 100, .int 50, .int 0, .int 0])), (x, .inr (21, [.ref s0, .int 0])), (l6, .inr (5, [.int 1, .ref ra_13, .int 1]))] := hD
  have hK : va_K (dC, dI) vwCl [] s := hK
  refine W.widen (k := 2) (n := 14) (Nat.le_of_ble_eq_true rfl) (Nat.le_of_ble_eq_true rfl) ?_
  refine lv_iconst (v := 1) hx hb dX15_approach_99 (by decide) ?_
  refine lv_isub hx hb dX15_approach_100 ?_
  refine lv_topi (fun z_16 ez_16 => ?_)
  obtain rfl : z_16 = 0 := ez_16.trans (by decide)
  have hP9 := hP.sub (ws' := [(x, .inr (21, [.ref s0, .int 0]))]) [1] rfl
  have hD9 := hD.sub (ws' := [(x, .inr (21, [.ref s0, .int 0]))]) [1] (by decide) rfl
  have hK9 := hK.sub (tys' := []) [] rfl
  refine W.widen (k := 2) (n := 14) (Nat.le_of_ble_eq_true rfl) (Nat.le_of_ble_eq_true rfl) ?_
  exact W.iret (v := 0) hx hb hr (fun t ht hW => ⟨⟨0, (), rfl, rfl, pst_of hP9 hD9 hK9 ht hW⟩, hS.F ht⟩) hS.2.2 dX15_approach_101

set_option maxHeartbeats 4000000 in
set_option maxRecDepth 100000 in
theorem c_rm_approach_n1 (l : Launch) (dC : Nat → ClassId) (dI : Nat → Nat → Nat) (E : Nat → Nat) (x : Nat) (s0 : Nat) (l0 : Nat) (l1 : Nat) (l2 : Nat) (l3 : Nat) (l4 : Nat) (l5 : Nat) (l6 : Nat) (l7 : Nat) (l8 : Nat) (th : Int32) (a : Int32) (b : Int32) (sz : Nat) (h : ¬ (¬ a < 1 ∧ ¬ 500 < a)) : Met l yX15_approach wsX15_approach ({ frames := 1, cells := 0, slots := 0, locals := 22 }) (va_Pc [.ref x, .int a, .int b] (pre dC dI E [(x, .inr (21, [.ref s0, .int th])), (s0, .inr (20, [.ref l0, .ref l1, .ref l2, .ref l3, .ref l4, .ref l5, .ref l6, .ref l7, .ref l8, .int 10, .int 100, .int 50, .int 0, .int 0]))] [] sz)) (va_Qi (fun (r : Int32) (_ : Unit) => r = 0) (fun _ t => pst dC dI (va_A [(x, .inr (21, [.ref s0, .int th])), (s0, .inr (20, [.ref l0, .ref l1, .ref l2, .ref l3, .ref l4, .ref l5, .ref l6, .ref l7, .ref l8, .int 10, .int 100, .int 50, .int 0, .int 0]))] sz) [(x, .inr (21, [.ref s0, .int 1]))] [] t) (va_A [(x, .inr (21, [.ref s0, .int th])), (s0, .inr (20, [.ref l0, .ref l1, .ref l2, .ref l3, .ref l4, .ref l5, .ref l6, .ref l7, .ref l8, .int 10, .int 100, .int 50, .int 0, .int 0]))] sz)) 0 0 (va_A [(x, .inr (21, [.ref s0, .int th])), (s0, .inr (20, [.ref l0, .ref l1, .ref l2, .ref l3, .ref l4, .ref l5, .ref l6, .ref l7, .ref l8, .int 10, .int 100, .int 50, .int 0, .int 0]))] sz) := by
  refine Met.ofW (cc := cX15_approach) (maxL := 3) (ret := (some .int)) (by decide) rfl ?_
  intro p e s m args below meth c s₁ B hml hv
  obtain ⟨rfl, hsz, hP, hK, hD0, hE, hZ0⟩ := hv
  have hx := B.exec
  have hb := B.bytes
  have hr := B.returns
  have hts := atoms_spec (ws := wsX15_approach) B.pre
  have hown : s.vm.findClass RX15 = some m.cls := findClass_of_methodNamed B.named
  have hlocks := B.notSynchronized
  subst hsz
  have hD := hD0.self (sz := s.heap.size)
  generalize hAe : va_A [(x, .inr (21, [.ref s0, .int th])), (s0, .inr (20, [.ref l0, .ref l1, .ref l2, .ref l3, .ref l4, .ref l5, .ref l6, .ref l7, .ref l8, .int 10, .int 100, .int 50, .int 0, .int 0]))] s.heap.size = A at hD hZ0 ⊢
  have hZ := hZ0
  have hA : ∀ q : Nat, s.heap.size ≤ q → A q := fun q h => by rw [← hAe]; exact Or.inr h
  have hS : va_S A s.heap s.heap [] := va_S.rf
  have hP : va_P (dC, dI) vwCl [(x, .inr (21, [.ref s0, .int th])), (s0, .inr (20, [.ref l0, .ref l1, .ref l2, .ref l3, .ref l4, .ref l5, .ref l6, .ref l7, .ref l8, .int 10, .int 100, .int 50, .int 0, .int 0]))] s.heap := hP
  have hl := lv_entry ([.ref x, .int a, .int b]) (n := 3) (Nat.le_of_ble_eq_true rfl)
  rw [lg_entry_eq]
  generalize (lg_sl ([.ref x, .int a, .int b]) ++ List.replicate (3 - (lg_sl ([.ref x, .int a, .int b])).length) Slot.unset).toArray = ls at hl ⊢
  have hl : lv_has ls 3 [(0, .ref x), (1, .int a), (2, .int b)] := hl
  refine lv_aload_n hx hb dX15_approach_0 rfl (lv_at hl 0 rfl) ?_
  refine lv_iload_n hx hb dX15_approach_1 rfl (lv_at hl 1 rfl) ?_
  refine lv_iconst (v := 1) hx hb dX15_approach_2 (by decide) ?_
  refine lv_sipush (v := 500) hx hb dX15_approach_3 (by decide) ?_
  have hPc := hP.sub (ws' := []) [] rfl
  have hDc := hD.sub (ws' := []) [] (by decide) rfl
  have hKc := hK.sub (tys' := []) [] rfl
  have hFc := va_free (wc := []) hD hS hA [] rfl
  refine va_calli (va_runS (As := [.int a, .int 1, .int 500]) (rest := [.ref x]) ⟨hx, hb, hml, hown, hts⟩ (c_rm_isIn_n l dC dI E a 1 500 s.heap.size h) (va_cwS 3 hts gX15_approach_X15_isIn rfl rfl rfl (by decide +kernel) ⟨(Nat.le_of_ble_eq_true rfl), (Nat.le_of_ble_eq_true rfl)⟩) ⟨pre_blind, pre_call hPc hDc hKc hFc hE hZ hS⟩ rfl rfl hl.1 rfl (lv_room (Nat.le_of_ble_eq_true rfl)) dX15_approach_6 ⟨(Nat.le_of_ble_eq_true rfl), (Nat.le_of_ble_eq_true rfl)⟩) hS (fun q _ h => hFc q h) hFc (fun r u t H1 locs1 ht hvm hw hB hz1 hk1 hS => ?_)
  have hw9 : r = 0 := hw
  rw [hw9]
  obtain ⟨hP, hD, hK⟩ := pst_join (wc := []) (wr := [(x, .inr (21, [.ref s0, .int th])), (s0, .inr (20, [.ref l0, .ref l1, .ref l2, .ref l3, .ref l4, .ref l5, .ref l6, .ref l7, .ref l8, .int 10, .int 100, .int 50, .int 0, .int 0]))]) (w1 := []) (tr := []) (t1 := []) hP hD hK [] [0, 1] [] rfl rfl rfl (by decide) (by decide) hk1 hFc ht hvm hB
  generalize H1 = H at hP hS ⊢
  have hP : va_P (dC, dI) vwCl [(x, .inr (21, [.ref s0, .int th])), (s0, .inr (20, [.ref l0, .ref l1, .ref l2, .ref l3, .ref l4, .ref l5, .ref l6, .ref l7, .ref l8, .int 10, .int 100, .int 50, .int 0, .int 0]))] H := hP
  have hD : va_D A [(x, .inr (21, [.ref s0, .int th])), (s0, .inr (20, [.ref l0, .ref l1, .ref l2, .ref l3, .ref l4, .ref l5, .ref l6, .ref l7, .ref l8, .int 10, .int 100, .int 50, .int 0, .int 0]))] := hD
  have hK : va_K (dC, dI) vwCl [] s := hK
  refine W.widen (k := 0) (n := 0) (Nat.le_of_ble_eq_true rfl) (Nat.le_of_ble_eq_true rfl) ?_
  refine lv_if_eq (tgt := 26) hx hb dX15_approach_9 (by decide) (fun _ => ?_) (fun c9 => absurd (by decide) c9)
  refine lv_iconst (v := 0) hx hb dX15_approach_26 (by decide) ?_
  refine lv_iconst (v := 1) hx hb dX15_approach_27 (by decide) ?_
  have hPc := hP.sub (ws' := [(x, .inr (21, [.ref s0, .int th]))]) [0] rfl
  have hDc := hD.sub (ws' := [(x, .inr (21, [.ref s0, .int th]))]) [0] (by decide) rfl
  have hKc := hK.sub (tys' := []) [] rfl
  have hFc := va_free (wc := [(x, .inr (21, [.ref s0, .int th]))]) hD hS hA [0] rfl
  refine va_calli (va_runV (As := [.int 0, .int 1]) (rest := []) ⟨hx, hb, hml, hown, hts⟩ (c_rm_no_0 l dC dI E x s0 th 1 H.size) (cwV 2 hts gX15_approach_X15_no rfl rfl rfl (by decide +kernel) ⟨(Nat.le_of_ble_eq_true rfl), (Nat.le_of_ble_eq_true rfl)⟩) ⟨pre_blind, va_recv hKc hPc (ci := 21) (q0 := 0) rfl rfl, pre_call hPc hDc hKc hFc hE hZ hS⟩ rfl rfl hl.1 rfl (lv_room (Nat.le_of_ble_eq_true rfl)) dX15_approach_28 ⟨(Nat.le_of_ble_eq_true rfl), (Nat.le_of_ble_eq_true rfl)⟩) hS (fun q _ h => hFc q h) hFc (fun r u t H1 locs1 ht hvm hw hB hz1 hk1 hS => ?_)
  have hw9 : r = 1 := hw
  rw [hw9]
  obtain ⟨hP, hD, hK⟩ := pst_join (wc := [(x, .inr (21, [.ref s0, .int th]))]) (wr := [(s0, .inr (20, [.ref l0, .ref l1, .ref l2, .ref l3, .ref l4, .ref l5, .ref l6, .ref l7, .ref l8, .int 10, .int 100, .int 50, .int 0, .int 0]))]) (w1 := [(x, .inr (21, [.ref s0, .int 1]))]) (tr := []) (t1 := []) hP hD hK [0] [1] [] rfl rfl rfl (by decide) (by decide) hk1 hFc ht hvm hB
  generalize H1 = H at hP hS ⊢
  have hP : va_P (dC, dI) vwCl [(s0, .inr (20, [.ref l0, .ref l1, .ref l2, .ref l3, .ref l4, .ref l5, .ref l6, .ref l7, .ref l8, .int 10, .int 100, .int 50, .int 0, .int 0])), (x, .inr (21, [.ref s0, .int 1]))] H := hP
  have hD : va_D A [(s0, .inr (20, [.ref l0, .ref l1, .ref l2, .ref l3, .ref l4, .ref l5, .ref l6, .ref l7, .ref l8, .int 10, .int 100, .int 50, .int 0, .int 0])), (x, .inr (21, [.ref s0, .int 1]))] := hD
  have hK : va_K (dC, dI) vwCl [] s := hK
  refine W.widen (k := 0) (n := 0) (Nat.le_of_ble_eq_true rfl) (Nat.le_of_ble_eq_true rfl) ?_
  refine lv_if_ne (tgt := 63) hx hb dX15_approach_31 (by decide) (fun _ => ?_) (fun c9 => absurd c9 (by decide))
  refine lv_iconst (v := 0) hx hb dX15_approach_63 (by decide) ?_
  have hP9 := hP.sub (ws' := [(x, .inr (21, [.ref s0, .int 1]))]) [1] rfl
  have hD9 := hD.sub (ws' := [(x, .inr (21, [.ref s0, .int 1]))]) [1] (by decide) rfl
  have hK9 := hK.sub (tys' := []) [] rfl
  refine W.widen (k := 0) (n := 0) (Nat.le_of_ble_eq_true rfl) (Nat.le_of_ble_eq_true rfl) ?_
  exact W.iret (v := 0) hx hb hr (fun t ht hW => ⟨⟨0, (), rfl, rfl, pst_of hP9 hD9 hK9 ht hW⟩, hS.F ht⟩) hS.2.2 dX15_approach_64

set_option maxHeartbeats 4000000 in
set_option maxRecDepth 100000 in
theorem c_rm_approach_n2 (l : Launch) (dC : Nat → ClassId) (dI : Nat → Nat → Nat) (E : Nat → Nat) (x : Nat) (s0 : Nat) (l0 : Nat) (l1 : Nat) (l2 : Nat) (l3 : Nat) (l4 : Nat) (l5 : Nat) (l6 : Nat) (l7 : Nat) (l8 : Nat) (th : Int32) (a : Int32) (b : Int32) (sz : Nat) (hla1 : ¬ a < 1) (hua1 : ¬ 500 < a) (h : ¬ (¬ b < 0 ∧ ¬ 99 < b)) : Met l yX15_approach wsX15_approach ({ frames := 1, cells := 0, slots := 0, locals := 22 }) (va_Pc [.ref x, .int a, .int b] (pre dC dI E [(x, .inr (21, [.ref s0, .int th])), (s0, .inr (20, [.ref l0, .ref l1, .ref l2, .ref l3, .ref l4, .ref l5, .ref l6, .ref l7, .ref l8, .int 10, .int 100, .int 50, .int 0, .int 0]))] [] sz)) (va_Qi (fun (r : Int32) (_ : Unit) => r = 0) (fun _ t => pst dC dI (va_A [(x, .inr (21, [.ref s0, .int th])), (s0, .inr (20, [.ref l0, .ref l1, .ref l2, .ref l3, .ref l4, .ref l5, .ref l6, .ref l7, .ref l8, .int 10, .int 100, .int 50, .int 0, .int 0]))] sz) [(x, .inr (21, [.ref s0, .int 1]))] [] t) (va_A [(x, .inr (21, [.ref s0, .int th])), (s0, .inr (20, [.ref l0, .ref l1, .ref l2, .ref l3, .ref l4, .ref l5, .ref l6, .ref l7, .ref l8, .int 10, .int 100, .int 50, .int 0, .int 0]))] sz)) 0 0 (va_A [(x, .inr (21, [.ref s0, .int th])), (s0, .inr (20, [.ref l0, .ref l1, .ref l2, .ref l3, .ref l4, .ref l5, .ref l6, .ref l7, .ref l8, .int 10, .int 100, .int 50, .int 0, .int 0]))] sz) := by
  refine Met.ofW (cc := cX15_approach) (maxL := 3) (ret := (some .int)) (by decide) rfl ?_
  intro p e s m args below meth c s₁ B hml hv
  obtain ⟨rfl, hsz, hP, hK, hD0, hE, hZ0⟩ := hv
  have hx := B.exec
  have hb := B.bytes
  have hr := B.returns
  have hts := atoms_spec (ws := wsX15_approach) B.pre
  have hown : s.vm.findClass RX15 = some m.cls := findClass_of_methodNamed B.named
  have hlocks := B.notSynchronized
  subst hsz
  have hD := hD0.self (sz := s.heap.size)
  generalize hAe : va_A [(x, .inr (21, [.ref s0, .int th])), (s0, .inr (20, [.ref l0, .ref l1, .ref l2, .ref l3, .ref l4, .ref l5, .ref l6, .ref l7, .ref l8, .int 10, .int 100, .int 50, .int 0, .int 0]))] s.heap.size = A at hD hZ0 ⊢
  have hZ := hZ0
  have hA : ∀ q : Nat, s.heap.size ≤ q → A q := fun q h => by rw [← hAe]; exact Or.inr h
  have hS : va_S A s.heap s.heap [] := va_S.rf
  have hP : va_P (dC, dI) vwCl [(x, .inr (21, [.ref s0, .int th])), (s0, .inr (20, [.ref l0, .ref l1, .ref l2, .ref l3, .ref l4, .ref l5, .ref l6, .ref l7, .ref l8, .int 10, .int 100, .int 50, .int 0, .int 0]))] s.heap := hP
  have hl := lv_entry ([.ref x, .int a, .int b]) (n := 3) (Nat.le_of_ble_eq_true rfl)
  rw [lg_entry_eq]
  generalize (lg_sl ([.ref x, .int a, .int b]) ++ List.replicate (3 - (lg_sl ([.ref x, .int a, .int b])).length) Slot.unset).toArray = ls at hl ⊢
  have hl : lv_has ls 3 [(0, .ref x), (1, .int a), (2, .int b)] := hl
  refine lv_aload_n hx hb dX15_approach_0 rfl (lv_at hl 0 rfl) ?_
  refine lv_iload_n hx hb dX15_approach_1 rfl (lv_at hl 1 rfl) ?_
  refine lv_iconst (v := 1) hx hb dX15_approach_2 (by decide) ?_
  refine lv_sipush (v := 500) hx hb dX15_approach_3 (by decide) ?_
  have hPc := hP.sub (ws' := []) [] rfl
  have hDc := hD.sub (ws' := []) [] (by decide) rfl
  have hKc := hK.sub (tys' := []) [] rfl
  have hFc := va_free (wc := []) hD hS hA [] rfl
  refine va_calli (va_runS (As := [.int a, .int 1, .int 500]) (rest := [.ref x]) ⟨hx, hb, hml, hown, hts⟩ (c_rm_isIn_y l dC dI E a 1 500 s.heap.size hla1 hua1) (va_cwS 3 hts gX15_approach_X15_isIn rfl rfl rfl (by decide +kernel) ⟨(Nat.le_of_ble_eq_true rfl), (Nat.le_of_ble_eq_true rfl)⟩) ⟨pre_blind, pre_call hPc hDc hKc hFc hE hZ hS⟩ rfl rfl hl.1 rfl (lv_room (Nat.le_of_ble_eq_true rfl)) dX15_approach_6 ⟨(Nat.le_of_ble_eq_true rfl), (Nat.le_of_ble_eq_true rfl)⟩) hS (fun q _ h => hFc q h) hFc (fun r u t H1 locs1 ht hvm hw hB hz1 hk1 hS => ?_)
  have hw9 : r = 1 := hw
  rw [hw9]
  obtain ⟨hP, hD, hK⟩ := pst_join (wc := []) (wr := [(x, .inr (21, [.ref s0, .int th])), (s0, .inr (20, [.ref l0, .ref l1, .ref l2, .ref l3, .ref l4, .ref l5, .ref l6, .ref l7, .ref l8, .int 10, .int 100, .int 50, .int 0, .int 0]))]) (w1 := []) (tr := []) (t1 := []) hP hD hK [] [0, 1] [] rfl rfl rfl (by decide) (by decide) hk1 hFc ht hvm hB
  generalize H1 = H at hP hS ⊢
  have hP : va_P (dC, dI) vwCl [(x, .inr (21, [.ref s0, .int th])), (s0, .inr (20, [.ref l0, .ref l1, .ref l2, .ref l3, .ref l4, .ref l5, .ref l6, .ref l7, .ref l8, .int 10, .int 100, .int 50, .int 0, .int 0]))] H := hP
  have hD : va_D A [(x, .inr (21, [.ref s0, .int th])), (s0, .inr (20, [.ref l0, .ref l1, .ref l2, .ref l3, .ref l4, .ref l5, .ref l6, .ref l7, .ref l8, .int 10, .int 100, .int 50, .int 0, .int 0]))] := hD
  have hK : va_K (dC, dI) vwCl [] s := hK
  refine W.widen (k := 0) (n := 0) (Nat.le_of_ble_eq_true rfl) (Nat.le_of_ble_eq_true rfl) ?_
  refine lv_if_eq (tgt := 26) hx hb dX15_approach_9 (by decide) (fun c9 => absurd c9 (by decide)) (fun _ => ?_)
  refine lv_iload_n hx hb dX15_approach_12 rfl (lv_at hl 2 rfl) ?_
  refine lv_iconst (v := 0) hx hb dX15_approach_13 (by decide) ?_
  refine lv_bipush (v := 99) hx hb dX15_approach_14 (by decide) ?_
  have hPc := hP.sub (ws' := []) [] rfl
  have hDc := hD.sub (ws' := []) [] (by decide) rfl
  have hKc := hK.sub (tys' := []) [] rfl
  have hFc := va_free (wc := []) hD hS hA [] rfl
  refine va_calli (va_runS (As := [.int b, .int 0, .int 99]) (rest := [.ref x]) ⟨hx, hb, hml, hown, hts⟩ (c_rm_isIn_n l dC dI E b 0 99 H.size h) (va_cwS 3 hts gX15_approach_X15_isIn rfl rfl rfl (by decide +kernel) ⟨(Nat.le_of_ble_eq_true rfl), (Nat.le_of_ble_eq_true rfl)⟩) ⟨pre_blind, pre_call hPc hDc hKc hFc hE hZ hS⟩ rfl rfl hl.1 rfl (lv_room (Nat.le_of_ble_eq_true rfl)) dX15_approach_16 ⟨(Nat.le_of_ble_eq_true rfl), (Nat.le_of_ble_eq_true rfl)⟩) hS (fun q _ h => hFc q h) hFc (fun r u t H1 locs1 ht hvm hw hB hz1 hk1 hS => ?_)
  have hw9 : r = 0 := hw
  rw [hw9]
  obtain ⟨hP, hD, hK⟩ := pst_join (wc := []) (wr := [(x, .inr (21, [.ref s0, .int th])), (s0, .inr (20, [.ref l0, .ref l1, .ref l2, .ref l3, .ref l4, .ref l5, .ref l6, .ref l7, .ref l8, .int 10, .int 100, .int 50, .int 0, .int 0]))]) (w1 := []) (tr := []) (t1 := []) hP hD hK [] [0, 1] [] rfl rfl rfl (by decide) (by decide) hk1 hFc ht hvm hB
  generalize H1 = H at hP hS ⊢
  have hP : va_P (dC, dI) vwCl [(x, .inr (21, [.ref s0, .int th])), (s0, .inr (20, [.ref l0, .ref l1, .ref l2, .ref l3, .ref l4, .ref l5, .ref l6, .ref l7, .ref l8, .int 10, .int 100, .int 50, .int 0, .int 0]))] H := hP
  have hD : va_D A [(x, .inr (21, [.ref s0, .int th])), (s0, .inr (20, [.ref l0, .ref l1, .ref l2, .ref l3, .ref l4, .ref l5, .ref l6, .ref l7, .ref l8, .int 10, .int 100, .int 50, .int 0, .int 0]))] := hD
  have hK : va_K (dC, dI) vwCl [] s := hK
  refine W.widen (k := 0) (n := 0) (Nat.le_of_ble_eq_true rfl) (Nat.le_of_ble_eq_true rfl) ?_
  refine lv_if_eq (tgt := 26) hx hb dX15_approach_19 (by decide) (fun _ => ?_) (fun c9 => absurd (by decide) c9)
  refine lv_iconst (v := 0) hx hb dX15_approach_26 (by decide) ?_
  refine lv_iconst (v := 1) hx hb dX15_approach_27 (by decide) ?_
  have hPc := hP.sub (ws' := [(x, .inr (21, [.ref s0, .int th]))]) [0] rfl
  have hDc := hD.sub (ws' := [(x, .inr (21, [.ref s0, .int th]))]) [0] (by decide) rfl
  have hKc := hK.sub (tys' := []) [] rfl
  have hFc := va_free (wc := [(x, .inr (21, [.ref s0, .int th]))]) hD hS hA [0] rfl
  refine va_calli (va_runV (As := [.int 0, .int 1]) (rest := []) ⟨hx, hb, hml, hown, hts⟩ (c_rm_no_0 l dC dI E x s0 th 1 H.size) (cwV 2 hts gX15_approach_X15_no rfl rfl rfl (by decide +kernel) ⟨(Nat.le_of_ble_eq_true rfl), (Nat.le_of_ble_eq_true rfl)⟩) ⟨pre_blind, va_recv hKc hPc (ci := 21) (q0 := 0) rfl rfl, pre_call hPc hDc hKc hFc hE hZ hS⟩ rfl rfl hl.1 rfl (lv_room (Nat.le_of_ble_eq_true rfl)) dX15_approach_28 ⟨(Nat.le_of_ble_eq_true rfl), (Nat.le_of_ble_eq_true rfl)⟩) hS (fun q _ h => hFc q h) hFc (fun r u t H1 locs1 ht hvm hw hB hz1 hk1 hS => ?_)
  have hw9 : r = 1 := hw
  rw [hw9]
  obtain ⟨hP, hD, hK⟩ := pst_join (wc := [(x, .inr (21, [.ref s0, .int th]))]) (wr := [(s0, .inr (20, [.ref l0, .ref l1, .ref l2, .ref l3, .ref l4, .ref l5, .ref l6, .ref l7, .ref l8, .int 10, .int 100, .int 50, .int 0, .int 0]))]) (w1 := [(x, .inr (21, [.ref s0, .int 1]))]) (tr := []) (t1 := []) hP hD hK [0] [1] [] rfl rfl rfl (by decide) (by decide) hk1 hFc ht hvm hB
  generalize H1 = H at hP hS ⊢
  have hP : va_P (dC, dI) vwCl [(s0, .inr (20, [.ref l0, .ref l1, .ref l2, .ref l3, .ref l4, .ref l5, .ref l6, .ref l7, .ref l8, .int 10, .int 100, .int 50, .int 0, .int 0])), (x, .inr (21, [.ref s0, .int 1]))] H := hP
  have hD : va_D A [(s0, .inr (20, [.ref l0, .ref l1, .ref l2, .ref l3, .ref l4, .ref l5, .ref l6, .ref l7, .ref l8, .int 10, .int 100, .int 50, .int 0, .int 0])), (x, .inr (21, [.ref s0, .int 1]))] := hD
  have hK : va_K (dC, dI) vwCl [] s := hK
  refine W.widen (k := 0) (n := 0) (Nat.le_of_ble_eq_true rfl) (Nat.le_of_ble_eq_true rfl) ?_
  refine lv_if_ne (tgt := 63) hx hb dX15_approach_31 (by decide) (fun _ => ?_) (fun c9 => absurd c9 (by decide))
  refine lv_iconst (v := 0) hx hb dX15_approach_63 (by decide) ?_
  have hP9 := hP.sub (ws' := [(x, .inr (21, [.ref s0, .int 1]))]) [1] rfl
  have hD9 := hD.sub (ws' := [(x, .inr (21, [.ref s0, .int 1]))]) [1] (by decide) rfl
  have hK9 := hK.sub (tys' := []) [] rfl
  refine W.widen (k := 0) (n := 0) (Nat.le_of_ble_eq_true rfl) (Nat.le_of_ble_eq_true rfl) ?_
  exact W.iret (v := 0) hx hb hr (fun t ht hW => ⟨⟨0, (), rfl, rfl, pst_of hP9 hD9 hK9 ht hW⟩, hS.F ht⟩) hS.2.2 dX15_approach_64

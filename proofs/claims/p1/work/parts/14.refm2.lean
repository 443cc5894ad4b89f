set_option maxHeartbeats 4000000 in
set_option maxRecDepth 100000 in
theorem c_rm_addDevice_y (l : Launch) (dC : Nat → ClassId) (dI : Nat → Nat → Nat) (E : Nat → Nat) (x : Nat) (s0 : Nat) (l0 : Nat) (l1 : Nat) (l2 : Nat) (l3 : Nat) (l4 : Nat) (l5 : Nat) (l6 : Nat) (l7 : Nat) (l8 : Nat) (th : Int32) (k : Int32) (b : Int32) (sz : Nat) (hk : k = 115 ∨ k = 101 ∨ k = 108) : Met l yX15_addDevice wsX15_addDevice ({ frames := 2, cells := 0, slots := 0, locals := 43 }) (va_Pc [.ref x, .int k, .int b] (pre dC dI E [(x, .inr (21, [.ref s0, .int th])), (s0, .inr (20, [.ref l0, .ref l1, .ref l2, .ref l3, .ref l4, .ref l5, .ref l6, .ref l7, .ref l8, .int 10, .int 100, .int 50, .int 0, .int 0])), (l0, .inr (5, [.int 0, .ref (E 0), .int 0]))] [] sz)) (va_Qi (fun (r : Int32) (_ : Unit) => r = 0) (fun _ t => pst dC dI (va_A [(x, .inr (21, [.ref s0, .int th])), (s0, .inr (20, [.ref l0, .ref l1, .ref l2, .ref l3, .ref l4, .ref l5, .ref l6, .ref l7, .ref l8, .int 10, .int 100, .int 50, .int 0, .int 0])), (l0, .inr (5, [.int 0, .ref (E 0), .int 0]))] sz) [(x, .inr (21, [.ref s0, .int 2]))] [] t) (va_A [(x, .inr (21, [.ref s0, .int th])), (s0, .inr (20, [.ref l0, .ref l1, .ref l2, .ref l3, .ref l4, .ref l5, .ref l6, .ref l7, .ref l8, .int 10, .int 100, .int 50, .int 0, .int 0])), (l0, .inr (5, [.int 0, .ref (E 0), .int 0]))] sz)) 0 0 (va_A [(x, .inr (21, [.ref s0, .int th])), (s0, .inr (20, [.ref l0, .ref l1, .ref l2, .ref l3, .ref l4, .ref l5, .ref l6, .ref l7, .ref l8, .int 10, .int 100, .int 50, .int 0, .int 0])), (l0, .inr (5, [.int 0, .ref (E 0), .int 0]))] sz) := by
  refine Met.ofW (cc := cX15_addDevice) (maxL := 3) (ret := (some .int)) (by decide) rfl ?_
  intro p e s m args below meth c s₁ B hml hv
  obtain ⟨rfl, hsz, hP, hK, hD0, hE, hZ0⟩ := hv
  have hx := B.exec
  have hb := B.bytes
  have hr := B.returns
  have hts := atoms_spec (ws := wsX15_addDevice) B.pre
  have hown : s.vm.findClass RX15 = some m.cls := findClass_of_methodNamed B.named
  have hlocks := B.notSynchronized
  subst hsz
  have hD := hD0.self (sz := s.heap.size)
  generalize hAe : va_A [(x, .inr (21, [.ref s0, .int th])), (s0, .inr (20, [.ref l0, .ref l1, .ref l2, .ref l3, .ref l4, .ref l5, .ref l6, .ref l7, .ref l8, .int 10, .int 100, .int 50, .int 0, .int 0])), (l0, .inr (5, [.int 0, .ref (E 0), .int 0]))] s.heap.size = A at hD hZ0 ⊢
  have hZ := hZ0
  have hA : ∀ q : Nat, s.heap.size ≤ q → A q := fun q h => by rw [← hAe]; exact Or.inr h
  have hS : va_S A s.heap s.heap [] := va_S.rf
  have hP : va_P (dC, dI) vwCl [(x, .inr (21, [.ref s0, .int th])), (s0, .inr (20, [.ref l0, .ref l1, .ref l2, .ref l3, .ref l4, .ref l5, .ref l6, .ref l7, .ref l8, .int 10, .int 100, .int 50, .int 0, .int 0])), (l0, .inr (5, [.int 0, .ref (E 0), .int 0]))] s.heap := hP
  have hl := lv_entry ([.ref x, .int k, .int b]) (n := 3) (Nat.le_of_ble_eq_true rfl)
  rw [lg_entry_eq]
  generalize (lg_sl ([.ref x, .int k, .int b]) ++ List.replicate (3 - (lg_sl ([.ref x, .int k, .int b])).length) Slot.unset).toArray = ls at hl ⊢
  have hl : lv_has ls 3 [(0, .ref x), (1, .int k), (2, .int b)] := hl
  refine lv_aload_n hx hb dX15_addDevice_0 rfl (lv_at hl 0 rfl) ?_
  refine lv_iload_n hx hb dX15_addDevice_1 rfl (lv_at hl 1 rfl) ?_
  refine lv_bipush (v := 115) hx hb dX15_addDevice_2 (by decide) ?_
  refine lv_icmp_eq (tgt := 19) hx hb dX15_addDevice_4 (by decide) (fun c_1 => ?_) (fun c_1 => ?_)
  · refine lv_iconst (v := 1) hx hb dX15_addDevice_19 (by decide) ?_
    refine lv_goto (tgt := 24) hx hb dX15_addDevice_20 (by decide) ?_
    refine lv_iconst (v := 1) hx hb dX15_addDevice_24 (by decide) ?_
    have hPc := hP.sub (ws' := [(x, .inr (21, [.ref s0, .int th]))]) [0] rfl
    have hDc := hD.sub (ws' := [(x, .inr (21, [.ref s0, .int th]))]) [0] (by decide) rfl
    have hKc := hK.sub (tys' := []) [] rfl
    have hFc := va_free (wc := [(x, .inr (21, [.ref s0, .int th]))]) hD hS hA [0] rfl
    refine va_calli (va_runV (As := [.int 1, .int 1]) (rest := []) ⟨hx, hb, hml, hown, hts⟩ (c_rm_no_1 l dC dI E x s0 th 1 s.heap.size) (cwV 2 hts gX15_addDevice_X15_no rfl rfl rfl (by decide +kernel) ⟨(Nat.le_of_ble_eq_true rfl), (Nat.le_of_ble_eq_true rfl)⟩) ⟨pre_blind, va_recv hKc hPc (ci := 21) (q0 := 0) rfl rfl, pre_call hPc hDc hKc hFc hE hZ hS⟩ rfl rfl hl.1 rfl (lv_room (Nat.le_of_ble_eq_true rfl)) dX15_addDevice_25 ⟨(Nat.le_of_ble_eq_true rfl), (Nat.le_of_ble_eq_true rfl)⟩) hS (fun q _ h => hFc q h) hFc (fun r u t H1 locs1 ht hvm hw hB hz1 hk1 hS => ?_)
    have hw9 : r = 0 := hw
    rw [hw9]
    obtain ⟨hP, hD, hK⟩ := pst_join (wc := [(x, .inr (21, [.ref s0, .int th]))]) (wr := [(s0, .inr (20, [.ref l0, .ref l1, .ref l2, .ref l3, .ref l4, .ref l5, .ref l6, .ref l7, .ref l8, .int 10, .int 100, .int 50, .int 0, .int 0])), (l0, .inr (5, [.int 0, .ref (E 0), .int 0]))]) (w1 := [(x, .inr (21, [.ref s0, .int 0]))]) (tr := []) (t1 := []) hP hD hK [0] [1, 2] [] rfl rfl rfl (by decide) (by decide) hk1 hFc ht hvm hB
    generalize H1 = H at hP hS ⊢
    have hP : va_P (dC, dI) vwCl [(s0, .inr (20, [.ref l0, .ref l1, .ref l2, .ref l3, .ref l4, .ref l5, .ref l6, .ref l7, .ref l8, .int 10, .int 100, .int 50, .int 0, .int 0])), (l0, .inr (5, [.int 0, .ref (E 0), .int 0])), (x, .inr (21, [.ref s0, .int 0]))] H := hP
    have hD : va_D A [(s0, .inr (20, [.ref l0, .ref l1, .ref l2, .ref l3, .ref l4, .ref l5, .ref l6, .ref l7, .ref l8, .int 10, .int 100, .int 50, .int 0, .int 0])), (l0, .inr (5, [.int 0, .ref (E 0), .int 0])), (x, .inr (21, [.ref s0, .int 0]))] := hD
    have hK : va_K (dC, dI) vwCl [] s := hK
    refine W.widen (k := 0) (n := 0) (Nat.le_of_ble_eq_true rfl) (Nat.le_of_ble_eq_true rfl) ?_
    refine lv_if_ne (tgt := 74) hx hb dX15_addDevice_28 (by decide) (fun c9 => absurd (by decide) c9) (fun _ => ?_)
    refine lv_aload_n hx hb dX15_addDevice_31 rfl (lv_at hl 0 rfl) ?_
    refine lv_aload_n hx hb dX15_addDevice_32 rfl (lv_at hl 0 rfl) ?_
    refine lv_iload_n hx hb dX15_addDevice_33 rfl (lv_at hl 2 rfl) ?_
    have hPc := hP.sub (ws' := [(x, .inr (21, [.ref s0, .int 0])), (s0, .inr (20, [.ref l0, .ref l1, .ref l2, .ref l3, .ref l4, .ref l5, .ref l6, .ref l7, .ref l8, .int 10, .int 100, .int 50, .int 0, .int 0])), (l0, .inr (5, [.int 0, .ref (E 0), .int 0]))]) [2, 0, 1] rfl
    have hDc := hD.sub (ws' := [(x, .inr (21, [.ref s0, .int 0])), (s0, .inr (20, [.ref l0, .ref l1, .ref l2, .ref l3, .ref l4, .ref l5, .ref l6, .ref l7, .ref l8, .int 10, .int 100, .int 50, .int 0, .int 0])), (l0, .inr (5, [.int 0, .ref (E 0), .int 0]))]) [2, 0, 1] (by decide) rfl
    have hKc := hK.sub (tys' := []) [] rfl
    have hFc := va_free (wc := [(x, .inr (21, [.ref s0, .int 0])), (s0, .inr (20, [.ref l0, .ref l1, .ref l2, .ref l3, .ref l4, .ref l5, .ref l6, .ref l7, .ref l8, .int 10, .int 100, .int 50, .int 0, .int 0])), (l0, .inr (5, [.int 0, .ref (E 0), .int 0]))]) hD hS hA [2, 0, 1] rfl
    refine va_calli (va_runV (As := [.int b]) (rest := [.ref x]) ⟨hx, hb, hml, hown, hts⟩ (c_rm_isRoom l dC dI E x s0 l0 l1 l2 l3 l4 l5 l6 l7 l8 0 b H.size) (cwV 1 hts gX15_addDevice_X15_isRoom rfl rfl rfl (by decide +kernel) ⟨(Nat.le_of_ble_eq_true rfl), (Nat.le_of_ble_eq_true rfl)⟩) ⟨pre_blind, va_recv hKc hPc (ci := 21) (q0 := 0) rfl rfl, pre_call hPc hDc hKc hFc hE hZ hS⟩ rfl rfl hl.1 rfl (lv_room (Nat.le_of_ble_eq_true rfl)) dX15_addDevice_34 ⟨(Nat.le_of_ble_eq_true rfl), (Nat.le_of_ble_eq_true rfl)⟩) hS (fun q _ h => hFc q h) hFc (fun r u t H1 locs1 ht hvm hw hB hz1 hk1 hS => ?_)
    have hw9 : r = 0 := hw
    rw [hw9]
    obtain ⟨hP, hD, hK⟩ := pst_join (wc := [(x, .inr (21, [.ref s0, .int 0])), (s0, .inr (20, [.ref l0, .ref l1, .ref l2, .ref l3, .ref l4, .ref l5, .ref l6, .ref l7, .ref l8, .int 10, .int 100, .int 50, .int 0, .int 0])), (l0, .inr (5, [.int 0, .ref (E 0), .int 0]))]) (wr := []) (w1 := [(x, .inr (21, [.ref s0, .int 0])), (s0, .inr (20, [.ref l0, .ref l1, .ref l2, .ref l3, .ref l4, .ref l5, .ref l6, .ref l7, .ref l8, .int 10, .int 100, .int 50, .int 0, .int 0])), (l0, .inr (5, [.int 0, .ref (E 0), .int 0]))]) (tr := []) (t1 := []) hP hD hK [2, 0, 1] [] [] rfl rfl rfl (by decide) (by decide) hk1 hFc ht hvm hB
    generalize H1 = H at hP hS ⊢
    have hP : va_P (dC, dI) vwCl [(x, .inr (21, [.ref s0, .int 0])), (s0, .inr (20, [.ref l0, .ref l1, .ref l2, .ref l3, .ref l4, .ref l5, .ref l6, .ref l7, .ref l8, .int 10, .int 100, .int 50, .int 0, .int 0])), (l0, .inr (5, [.int 0, .ref (E 0), .int 0]))] H := hP
    have hD : va_D A [(x, .inr (21, [.ref s0, .int 0])), (s0, .inr (20, [.ref l0, .ref l1, .ref l2, .ref l3, .ref l4, .ref l5, .ref l6, .ref l7, .ref l8, .int 10, .int 100, .int 50, .int 0, .int 0])), (l0, .inr (5, [.int 0, .ref (E 0), .int 0]))] := hD
    have hK : va_K (dC, dI) vwCl [] s := hK
    refine W.widen (k := 0) (n := 0) (Nat.le_of_ble_eq_true rfl) (Nat.le_of_ble_eq_true rfl) ?_
    refine lv_iconst (v := 2) hx hb dX15_addDevice_37 (by decide) ?_
    have hPc := hP.sub (ws' := [(x, .inr (21, [.ref s0, .int 0]))]) [0] rfl
    have hDc := hD.sub (ws' := [(x, .inr (21, [.ref s0, .int 0]))]) [0] (by decide) rfl
    have hKc := hK.sub (tys' := []) [] rfl
    have hFc := va_free (wc := [(x, .inr (21, [.ref s0, .int 0]))]) hD hS hA [0] rfl
    refine va_calli (va_runV (As := [.int 0, .int 2]) (rest := []) ⟨hx, hb, hml, hown, hts⟩ (c_rm_no_0 l dC dI E x s0 0 2 H.size) (cwV 2 hts gX15_addDevice_X15_no rfl rfl rfl (by decide +kernel) ⟨(Nat.le_of_ble_eq_true rfl), (Nat.le_of_ble_eq_true rfl)⟩) ⟨pre_blind, va_recv hKc hPc (ci := 21) (q0 := 0) rfl rfl, pre_call hPc hDc hKc hFc hE hZ hS⟩ rfl rfl hl.1 rfl (lv_room (Nat.le_of_ble_eq_true rfl)) dX15_addDevice_38 ⟨(Nat.le_of_ble_eq_true rfl), (Nat.le_of_ble_eq_true rfl)⟩) hS (fun q _ h => hFc q h) hFc (fun r u t H1 locs1 ht hvm hw hB hz1 hk1 hS => ?_)
    have hw9 : r = 1 := hw
    rw [hw9]
    obtain ⟨hP, hD, hK⟩ := pst_join (wc := [(x, .inr (21, [.ref s0, .int 0]))]) (wr := [(s0, .inr (20, [.ref l0, .ref l1, .ref l2, .ref l3, .ref l4, .ref l5, .ref l6, .ref l7, .ref l8, .int 10, .int 100, .int 50, .int 0, .int 0])), (l0, .inr (5, [.int 0, .ref (E 0), .int 0]))]) (w1 := [(x, .inr (21, [.ref s0, .int 2]))]) (tr := []) (t1 := []) hP hD hK [0] [1, 2] [] rfl rfl rfl (by decide) (by decide) hk1 hFc ht hvm hB
    generalize H1 = H at hP hS ⊢
    have hP : va_P (dC, dI) vwCl [(s0, .inr (20, [.ref l0, .ref l1, .ref l2, .ref l3, .ref l4, .ref l5, .ref l6, .ref l7, .ref l8, .int 10, .int 100, .int 50, .int 0, .int 0])), (l0, .inr (5, [.int 0, .ref (E 0), .int 0])), (x, .inr (21, [.ref s0, .int 2]))] H := hP
    have hD : va_D A [(s0, .inr (20, [.ref l0, .ref l1, .ref l2, .ref l3, .ref l4, .ref l5, .ref l6, .ref l7, .ref l8, .int 10, .int 100, .int 50, .int 0, .int 0])), (l0, .inr (5, [.int 0, .ref (E 0), .int 0])), (x, .inr (21, [.ref s0, .int 2]))] := hD
    have hK : va_K (dC, dI) vwCl [] s := hK
    refine W.widen (k := 0) (n := 0) (Nat.le_of_ble_eq_true rfl) (Nat.le_of_ble_eq_true rfl) ?_
    refine lv_if_ne (tgt := 74) hx hb dX15_addDevice_41 (by decide) (fun _ => ?_) (fun c9 => absurd c9 (by decide))
    refine lv_iconst (v := 0) hx hb dX15_addDevice_74 (by decide) ?_
    have hP9 := hP.sub (ws' := [(x, .inr (21, [.ref s0, .int 2]))]) [2] rfl
    have hD9 := hD.sub (ws' := [(x, .inr (21, [.ref s0, .int 2]))]) [2] (by decide) rfl
    have hK9 := hK.sub (tys' := []) [] rfl
    refine W.widen (k := 0) (n := 0) (Nat.le_of_ble_eq_true rfl) (Nat.le_of_ble_eq_true rfl) ?_
    exact W.iret (v := 0) hx hb hr (fun t ht hW => ⟨⟨0, (), rfl, rfl, pst_of hP9 hD9 hK9 ht hW⟩, hS.F ht⟩) hS.2.2 dX15_addDevice_75
  · refine lv_iload_n hx hb dX15_addDevice_7 rfl (lv_at hl 1 rfl) ?_
    refine lv_bipush (v := 101) hx hb dX15_addDevice_8 (by decide) ?_
    refine lv_icmp_eq (tgt := 19) hx hb dX15_addDevice_10 (by decide) (fun c_7 => ?_) (fun c_7 => ?_)
    · refine lv_iconst (v := 1) hx hb dX15_addDevice_19 (by decide) ?_
      refine lv_goto (tgt := 24) hx hb dX15_addDevice_20 (by decide) ?_
      refine lv_iconst (v := 1) hx hb dX15_addDevice_24 (by decide) ?_
      have hPc := hP.sub (ws' := [(x, .inr (21, [.ref s0, .int th]))]) [0] rfl
      have hDc := hD.sub (ws' := [(x, .inr (21, [.ref s0, .int th]))]) [0] (by decide) rfl
      have hKc := hK.sub (tys' := []) [] rfl
      have hFc := va_free (wc := [(x, .inr (21, [.ref s0, .int th]))]) hD hS hA [0] rfl
      refine va_calli (va_runV (As := [.int 1, .int 1]) (rest := []) ⟨hx, hb, hml, hown, hts⟩ (c_rm_no_1 l dC dI E x s0 th 1 s.heap.size) (cwV 2 hts gX15_addDevice_X15_no rfl rfl rfl (by decide +kernel) ⟨(Nat.le_of_ble_eq_true rfl), (Nat.le_of_ble_eq_true rfl)⟩) ⟨pre_blind, va_recv hKc hPc (ci := 21) (q0 := 0) rfl rfl, pre_call hPc hDc hKc hFc hE hZ hS⟩ rfl rfl hl.1 rfl (lv_room (Nat.le_of_ble_eq_true rfl)) dX15_addDevice_25 ⟨(Nat.le_of_ble_eq_true rfl), (Nat.le_of_ble_eq_true rfl)⟩) hS (fun q _ h => hFc q h) hFc (fun r u t H1 locs1 ht hvm hw hB hz1 hk1 hS => ?_)
      have hw9 : r = 0 := hw
      rw [hw9]
      obtain ⟨hP, hD, hK⟩ := pst_join (wc := [(x, .inr (21, [.ref s0, .int th]))]) (wr := [(s0, .inr (20, [.ref l0, .ref l1, .ref l2, .ref l3, .ref l4, .ref l5, .ref l6, .ref l7, .ref l8, .int 10, .int 100, .int 50, .int 0, .int 0])), (l0, .inr (5, [.int 0, .ref (E 0), .int 0]))]) (w1 := [(x, .inr (21, [.ref s0, .int 0]))]) (tr := []) (t1 := []) hP hD hK [0] [1, 2] [] rfl rfl rfl (by decide) (by decide) hk1 hFc ht hvm hB
      generalize H1 = H at hP hS ⊢
      have hP : va_P (dC, dI) vwCl [(s0, .inr (20, [.ref l0, .ref l1, .ref l2, .ref l3, .ref l4, .ref l5, .ref l6, .ref l7, .ref l8, .int 10, .int 100, .int 50, .int 0, .int 0])), (l0, .inr (5, [.int 0, .ref (E 0), .int 0])), (x, .inr (21, [.ref s0, .int 0]))] H := hP
      have hD : va_D A [(s0, .inr (20, [.ref l0, .ref l1, .ref l2, .ref l3, .ref l4, .ref l5, .ref l6, .ref l7, .ref l8, .int 10, .int 100, .int 50, .int 0, .int 0])), (l0, .inr (5, [.int 0, .ref (E 0), .int 0])), (x, .inr (21, [.ref s0, .int 0]))] := hD
      have hK : va_K (dC, dI) vwCl [] s := hK
      refine W.widen (k := 0) (n := 0) (Nat.le_of_ble_eq_true rfl) (Nat.le_of_ble_eq_true rfl) ?_
      refine lv_if_ne (tgt := 74) hx hb dX15_addDevice_28 (by decide) (fun c9 => absurd (by decide) c9) (fun _ => ?_)
      refine lv_aload_n hx hb dX15_addDevice_31 rfl (lv_at hl 0 rfl) ?_
      refine lv_aload_n hx hb dX15_addDevice_32 rfl (lv_at hl 0 rfl) ?_
      refine lv_iload_n hx hb dX15_addDevice_33 rfl (lv_at hl 2 rfl) ?_
      have hPc := hP.sub (ws' := [(x, .inr (21, [.ref s0, .int 0])), (s0, .inr (20, [.ref l0, .ref l1, .ref l2, .ref l3, .ref l4, .ref l5, .ref l6, .ref l7, .ref l8, .int 10, .int 100, .int 50, .int 0, .int 0])), (l0, .inr (5, [.int 0, .ref (E 0), .int 0]))]) [2, 0, 1] rfl
      have hDc := hD.sub (ws' := [(x, .inr (21, [.ref s0, .int 0])), (s0, .inr (20, [.ref l0, .ref l1, .ref l2, .ref l3, .ref l4, .ref l5, .ref l6, .ref l7, .ref l8, .int 10, .int 100, .int 50, .int 0, .int 0])), (l0, .inr (5, [.int 0, .ref (E 0), .int 0]))]) [2, 0, 1] (by decide) rfl
      have hKc := hK.sub (tys' := []) [] rfl
      have hFc := va_free (wc := [(x, .inr (21, [.ref s0, .int 0])), (s0, .inr (20, [.ref l0, .ref l1, .ref l2, .ref l3, .ref l4, .ref l5, .ref l6, .ref l7, .ref l8, .int 10, .int 100, .int 50, .int 0, .int 0])), (l0, .inr (5, [.int 0, .ref (E 0), .int 0]))]) hD hS hA [2, 0, 1] rfl
      refine va_calli (va_runV (As := [.int b]) (rest := [.ref x]) ⟨hx, hb, hml, hown, hts⟩ (c_rm_isRoom l dC dI E x s0 l0 l1 l2 l3 l4 l5 l6 l7 l8 0 b H.size) (cwV 1 hts gX15_addDevice_X15_isRoom rfl rfl rfl (by decide +kernel) ⟨(Nat.le_of_ble_eq_true rfl), (Nat.le_of_ble_eq_true rfl)⟩) ⟨pre_blind, va_recv hKc hPc (ci := 21) (q0 := 0) rfl rfl, pre_call hPc hDc hKc hFc hE hZ hS⟩ rfl rfl hl.1 rfl (lv_room (Nat.le_of_ble_eq_true rfl)) dX15_addDevice_34 ⟨(Nat.le_of_ble_eq_true rfl), (Nat.le_of_ble_eq_true rfl)⟩) hS (fun q _ h => hFc q h) hFc (fun r u t H1 locs1 ht hvm hw hB hz1 hk1 hS => ?_)
      have hw9 : r = 0 := hw
      rw [hw9]
      obtain ⟨hP, hD, hK⟩ := pst_join (wc := [(x, .inr (21, [.ref s0, .int 0])), (s0, .inr (20, [.ref l0, .ref l1, .ref l2, .ref l3, .ref l4, .ref l5, .ref l6, .ref l7, .ref l8, .int 10, .int 100, .int 50, .int 0, .int 0])), (l0, .inr (5, [.int 0, .ref (E 0), .int 0]))]) (wr := []) (w1 := [(x, .inr (21, [.ref s0, .int 0])), (s0, .inr (20, [.ref l0, .ref l1, .ref l2, .ref l3, .ref l4, .ref l5, .ref l6, .ref l7, .ref l8, .int 10, .int 100, .int 50, .int 0, .int 0])), (l0, .inr (5, [.int 0, .ref (E 0), .int 0]))]) (tr := []) (t1 := []) hP hD hK [2, 0, 1] [] [] rfl rfl rfl (by decide) (by decide) hk1 hFc ht hvm hB
      generalize H1 = H at hP hS ⊢
      have hP : va_P (dC, dI) vwCl [(x, .inr (21, [.ref s0, .int 0])), (s0, .inr (20, [.ref l0, .ref l1, .ref l2, .ref l3, .ref l4, .ref l5, .ref l6, .ref l7, .ref l8, .int 10, .int 100, .int 50, .int 0, .int 0])), (l0, .inr (5, [.int 0, .ref (E 0), .int 0]))] H := hP
      have hD : va_D A [(x, .inr (21, [.ref s0, .int 0])), (s0, .inr (20, [.ref l0, .ref l1, .ref l2, .ref l3, .ref l4, .ref l5, .ref l6, .ref l7, .ref l8, .int 10, .int 100, .int 50, .int 0, .int 0])), (l0, .inr (5, [.int 0, .ref (E 0), .int 0]))] := hD
      have hK : va_K (dC, dI) vwCl [] s := hK
      refine W.widen (k := 0) (n := 0) (Nat.le_of_ble_eq_true rfl) (Nat.le_of_ble_eq_true rfl) ?_
      refine lv_iconst (v := 2) hx hb dX15_addDevice_37 (by decide) ?_
      have hPc := hP.sub (ws' := [(x, .inr (21, [.ref s0, .int 0]))]) [0] rfl
      have hDc := hD.sub (ws' := [(x, .inr (21, [.ref s0, .int 0]))]) [0] (by decide) rfl
      have hKc := hK.sub (tys' := []) [] rfl
      have hFc := va_free (wc := [(x, .inr (21, [.ref s0, .int 0]))]) hD hS hA [0] rfl
      refine va_calli (va_runV (As := [.int 0, .int 2]) (rest := []) ⟨hx, hb, hml, hown, hts⟩ (c_rm_no_0 l dC dI E x s0 0 2 H.size) (cwV 2 hts gX15_addDevice_X15_no rfl rfl rfl (by decide +kernel) ⟨(Nat.le_of_ble_eq_true rfl), (Nat.le_of_ble_eq_true rfl)⟩) ⟨pre_blind, va_recv hKc hPc (ci := 21) (q0 := 0) rfl rfl, pre_call hPc hDc hKc hFc hE hZ hS⟩ rfl rfl hl.1 rfl (lv_room (Nat.le_of_ble_eq_true rfl)) dX15_addDevice_38 ⟨(Nat.le_of_ble_eq_true rfl), (Nat.le_of_ble_eq_true rfl)⟩) hS (fun q _ h => hFc q h) hFc (fun r u t H1 locs1 ht hvm hw hB hz1 hk1 hS => ?_)
      have hw9 : r = 1 := hw
      rw [hw9]
      obtain ⟨hP, hD, hK⟩ := pst_join (wc := [(x, .inr (21, [.ref s0, .int 0]))]) (wr := [(s0, .inr (20, [.ref l0, .ref l1, .ref l2, .ref l3, .ref l4, .ref l5, .ref l6, .ref l7, .ref l8, .int 10, .int 100, .int 50, .int 0, .int 0])), (l0, .inr (5, [.int 0, .ref (E 0), .int 0]))]) (w1 := [(x, .inr (21, [.ref s0, .int 2]))]) (tr := []) (t1 := []) hP hD hK [0] [1, 2] [] rfl rfl rfl (by decide) (by decide) hk1 hFc ht hvm hB
      generalize H1 = H at hP hS ⊢
      have hP : va_P (dC, dI) vwCl [(s0, .inr (20, [.ref l0, .ref l1, .ref l2, .ref l3, .ref l4, .ref l5, .ref l6, .ref l7, .ref l8, .int 10, .int 100, .int 50, .int 0, .int 0])), (l0, .inr (5, [.int 0, .ref (E 0), .int 0])), (x, .inr (21, [.ref s0, .int 2]))] H := hP
      have hD : va_D A [(s0, .inr (20, [.ref l0, .ref l1, .ref l2, .ref l3, .ref l4, .ref l5, .ref l6, .ref l7, .ref l8, .int 10, .int 100, .int 50, .int 0, .int 0])), (l0, .inr (5, [.int 0, .ref (E 0), .int 0])), (x, .inr (21, [.ref s0, .int 2]))] := hD
      have hK : va_K (dC, dI) vwCl [] s := hK
      refine W.widen (k := 0) (n := 0) (Nat.le_of_ble_eq_true rfl) (Nat.le_of_ble_eq_true rfl) ?_
      refine lv_if_ne (tgt := 74) hx hb dX15_addDevice_41 (by decide) (fun _ => ?_) (fun c9 => absurd c9 (by decide))
      refine lv_iconst (v := 0) hx hb dX15_addDevice_74 (by decide) ?_
      have hP9 := hP.sub (ws' := [(x, .inr (21, [.ref s0, .int 2]))]) [2] rfl
      have hD9 := hD.sub (ws' := [(x, .inr (21, [.ref s0, .int 2]))]) [2] (by decide) rfl
      have hK9 := hK.sub (tys' := []) [] rfl
      refine W.widen (k := 0) (n := 0) (Nat.le_of_ble_eq_true rfl) (Nat.le_of_ble_eq_true rfl) ?_
      exact W.iret (v := 0) hx hb hr (fun t ht hW => ⟨⟨0, (), rfl, rfl, pst_of hP9 hD9 hK9 ht hW⟩, hS.F ht⟩) hS.2.2 dX15_addDevice_75
    · refine lv_iload_n hx hb dX15_addDevice_13 rfl (lv_at hl 1 rfl) ?_
      refine lv_bipush (v := 108) hx hb dX15_addDevice_14 (by decide) ?_
      refine lv_icmp_ne (tgt := 23) hx hb dX15_addDevice_16 (by decide) (fun c9 => (hk.elim c_1 (fun h => h.elim c_7 c9)).elim) (fun c_13 => ?_)
      refine lv_iconst (v := 1) hx hb dX15_addDevice_19 (by decide) ?_
      refine lv_goto (tgt := 24) hx hb dX15_addDevice_20 (by decide) ?_
      refine lv_iconst (v := 1) hx hb dX15_addDevice_24 (by decide) ?_
      have hPc := hP.sub (ws' := [(x, .inr (21, [.ref s0, .int th]))]) [0] rfl
      have hDc := hD.sub (ws' := [(x, .inr (21, [.ref s0, .int th]))]) [0] (by decide) rfl
      have hKc := hK.sub (tys' := []) [] rfl
      have hFc := va_free (wc := [(x, .inr (21, [.ref s0, .int th]))]) hD hS hA [0] rfl
      refine va_calli (va_runV (As := [.int 1, .int 1]) (rest := []) ⟨hx, hb, hml, hown, hts⟩ (c_rm_no_1 l dC dI E x s0 th 1 s.heap.size) (cwV 2 hts gX15_addDevice_X15_no rfl rfl rfl (by decide +kernel) ⟨(Nat.le_of_ble_eq_true rfl), (Nat.le_of_ble_eq_true rfl)⟩) ⟨pre_blind, va_recv hKc hPc (ci := 21) (q0 := 0) rfl rfl, pre_call hPc hDc hKc hFc hE hZ hS⟩ rfl rfl hl.1 rfl (lv_room (Nat.le_of_ble_eq_true rfl)) dX15_addDevice_25 ⟨(Nat.le_of_ble_eq_true rfl), (Nat.le_of_ble_eq_true rfl)⟩) hS (fun q _ h => hFc q h) hFc (fun r u t H1 locs1 ht hvm hw hB hz1 hk1 hS => ?_)
      have hw9 : r = 0 := hw
      rw [hw9]
      obtain ⟨hP, hD, hK⟩ := pst_join (wc := [(x, .inr (21, [.ref s0, .int th]))]) (wr := [(s0, .inr (20, [.ref l0, .ref l1, .ref l2, .ref l3, .ref l4, .ref l5, .ref l6, .ref l7, .ref l8, .int 10, .int 100, .int 50, .int 0, .int 0])), (l0, .inr (5, [.int 0, .ref (E 0), .int 0]))]) (w1 := [(x, .inr (21, [.ref s0, .int 0]))]) (tr := []) (t1 := []) hP hD hK [0] [1, 2] [] rfl rfl rfl (by decide) (by decide) hk1 hFc ht hvm hB
      generalize H1 = H at hP hS ⊢
      have hP : va_P (dC, dI) vwCl [(s0, .inr (20, [.ref l0, .ref l1, .ref l2, .ref l3, .ref l4, .ref l5, .ref l6, .ref l7, .ref l8, .int 10, .int 100, .int 50, .int 0, .int 0])), (l0, .inr (5, [.int 0, .ref (E 0), .int 0])), (x, .inr (21, [.ref s0, .int 0]))] H := hP
      have hD : va_D A [(s0, .inr (20, [.ref l0, .ref l1, .ref l2, .ref l3, .ref l4, .ref l5, .ref l6, .ref l7, .ref l8, .int 10, .int 100, .int 50, .int 0, .int 0])), (l0, .inr (5, [.int 0, .ref (E 0), .int 0])), (x, .inr (21, [.ref s0, .int 0]))] := hD
      have hK : va_K (dC, dI) vwCl [] s := hK
      refine W.widen (k := 0) (n := 0) (Nat.le_of_ble_eq_true rfl) (Nat.le_of_ble_eq_true rfl) ?_
      refine lv_if_ne (tgt := 74) hx hb dX15_addDevice_28 (by decide) (fun c9 => absurd (by decide) c9) (fun _ => ?_)
      refine lv_aload_n hx hb dX15_addDevice_31 rfl (lv_at hl 0 rfl) ?_
      refine lv_aload_n hx hb dX15_addDevice_32 rfl (lv_at hl 0 rfl) ?_
      refine lv_iload_n hx hb dX15_addDevice_33 rfl (lv_at hl 2 rfl) ?_
      have hPc := hP.sub (ws' := [(x, .inr (21, [.ref s0, .int 0])), (s0, .inr (20, [.ref l0, .ref l1, .ref l2, .ref l3, .ref l4, .ref l5, .ref l6, .ref l7, .ref l8, .int 10, .int 100, .int 50, .int 0, .int 0])), (l0, .inr (5, [.int 0, .ref (E 0), .int 0]))]) [2, 0, 1] rfl
      have hDc := hD.sub (ws' := [(x, .inr (21, [.ref s0, .int 0])), (s0, .inr (20, [.ref l0, .ref l1, .ref l2, .ref l3, .ref l4, .ref l5, .ref l6, .ref l7, .ref l8, .int 10, .int 100, .int 50, .int 0, .int 0])), (l0, .inr (5, [.int 0, .ref (E 0), .int 0]))]) [2, 0, 1] (by decide) rfl
      have hKc := hK.sub (tys' := []) [] rfl
      have hFc := va_free (wc := [(x, .inr (21, [.ref s0, .int 0])), (s0, .inr (20, [.ref l0, .ref l1, .ref l2, .ref l3, .ref l4, .ref l5, .ref l6, .ref l7, .ref l8, .int 10, .int 100, .int 50, .int 0, .int 0])), (l0, .inr (5, [.int 0, .ref (E 0), .int 0]))]) hD hS hA [2, 0, 1] rfl
      refine va_calli (va_runV (As := [.int b]) (rest := [.ref x]) ⟨hx, hb, hml, hown, hts⟩ (c_rm_isRoom l dC dI E x s0 l0 l1 l2 l3 l4 l5 l6 l7 l8 0 b H.size) (cwV 1 hts gX15_addDevice_X15_isRoom rfl rfl rfl (by decide +kernel) ⟨(Nat.le_of_ble_eq_true rfl), (Nat.le_of_ble_eq_true rfl)⟩) ⟨pre_blind, va_recv hKc hPc (ci := 21) (q0 := 0) rfl rfl, pre_call hPc hDc hKc hFc hE hZ hS⟩ rfl rfl hl.1 rfl (lv_room (Nat.le_of_ble_eq_true rfl)) dX15_addDevice_34 ⟨(Nat.le_of_ble_eq_true rfl), (Nat.le_of_ble_eq_true rfl)⟩) hS (fun q _ h => hFc q h) hFc (fun r u t H1 locs1 ht hvm hw hB hz1 hk1 hS => ?_)
      have hw9 : r = 0 := hw
      rw [hw9]
      obtain ⟨hP, hD, hK⟩ := pst_join (wc := [(x, .inr (21, [.ref s0, .int 0])), (s0, .inr (20, [.ref l0, .ref l1, .ref l2, .ref l3, .ref l4, .ref l5, .ref l6, .ref l7, .ref l8, .int 10, .int 100, .int 50, .int 0, .int 0])), (l0, .inr (5, [.int 0, .ref (E 0), .int 0]))]) (wr := []) (w1 := [(x, .inr (21, [.ref s0, .int 0])), (s0, .inr (20, [.ref l0, .ref l1, .ref l2, .ref l3, .ref l4, .ref l5, .ref l6, .ref l7, .ref l8, .int 10, .int 100, .int 50, .int 0, .int 0])), (l0, .inr (5, [.int 0, .ref (E 0), .int 0]))]) (tr := []) (t1 := []) hP hD hK [2, 0, 1] [] [] rfl rfl rfl (by decide) (by decide) hk1 hFc ht hvm hB
      generalize H1 = H at hP hS ⊢
      have hP : va_P (dC, dI) vwCl [(x, .inr (21, [.ref s0, .int 0])), (s0, .inr (20, [.ref l0, .ref l1, .ref l2, .ref l3, .ref l4, .ref l5, .ref l6, .ref l7, .ref l8, .int 10, .int 100, .int 50, .int 0, .int 0])), (l0, .inr (5, [.int 0, .ref (E 0), .int 0]))] H := hP
      have hD : va_D A [(x, .inr (21, [.ref s0, .int 0])), (s0, .inr (20, [.ref l0, .ref l1, .ref l2, .ref l3, .ref l4, .ref l5, .ref l6, .ref l7, .ref l8, .int 10, .int 100, .int 50, .int 0, .int 0])), (l0, .inr (5, [.int 0, .ref (E 0), .int 0]))] := hD
      have hK : va_K (dC, dI) vwCl [] s := hK
      refine W.widen (k := 0) (n := 0) (Nat.le_of_ble_eq_true rfl) (Nat.le_of_ble_eq_true rfl) ?_
      refine lv_iconst (v := 2) hx hb dX15_addDevice_37 (by decide) ?_
      have hPc := hP.sub (ws' := [(x, .inr (21, [.ref s0, .int 0]))]) [0] rfl
      have hDc := hD.sub (ws' := [(x, .inr (21, [.ref s0, .int 0]))]) [0] (by decide) rfl
      have hKc := hK.sub (tys' := []) [] rfl
      have hFc := va_free (wc := [(x, .inr (21, [.ref s0, .int 0]))]) hD hS hA [0] rfl
      refine va_calli (va_runV (As := [.int 0, .int 2]) (rest := []) ⟨hx, hb, hml, hown, hts⟩ (c_rm_no_0 l dC dI E x s0 0 2 H.size) (cwV 2 hts gX15_addDevice_X15_no rfl rfl rfl (by decide +kernel) ⟨(Nat.le_of_ble_eq_true rfl), (Nat.le_of_ble_eq_true rfl)⟩) ⟨pre_blind, va_recv hKc hPc (ci := 21) (q0 := 0) rfl rfl, pre_call hPc hDc hKc hFc hE hZ hS⟩ rfl rfl hl.1 rfl (lv_room (Nat.le_of_ble_eq_true rfl)) dX15_addDevice_38 ⟨(Nat.le_of_ble_eq_true rfl), (Nat.le_of_ble_eq_true rfl)⟩) hS (fun q _ h => hFc q h) hFc (fun r u t H1 locs1 ht hvm hw hB hz1 hk1 hS => ?_)
      have hw9 : r = 1 := hw
      rw [hw9]
      obtain ⟨hP, hD, hK⟩ := pst_join (wc := [(x, .inr (21, [.ref s0, .int 0]))]) (wr := [(s0, .inr (20, [.ref l0, .ref l1, .ref l2, .ref l3, .ref l4, .ref l5, .ref l6, .ref l7, .ref l8, .int 10, .int 100, .int 50, .int 0, .int 0])), (l0, .inr (5, [.int 0, .ref (E 0), .int 0]))]) (w1 := [(x, .inr (21, [.ref s0, .int 2]))]) (tr := []) (t1 := []) hP hD hK [0] [1, 2] [] rfl rfl rfl (by decide) (by decide) hk1 hFc ht hvm hB
      generalize H1 = H at hP hS ⊢
      have hP : va_P (dC, dI) vwCl [(s0, .inr (20, [.ref l0, .ref l1, .ref l2, .ref l3, .ref l4, .ref l5, .ref l6, .ref l7, .ref l8, .int 10, .int 100, .int 50, .int 0, .int 0])), (l0, .inr (5, [.int 0, .ref (E 0), .int 0])), (x, .inr (21, [.ref s0, .int 2]))] H := hP
      have hD : va_D A [(s0, .inr (20, [.ref l0, .ref l1, .ref l2, .ref l3, .ref l4, .ref l5, .ref l6, .ref l7, .ref l8, .int 10, .int 100, .int 50, .int 0, .int 0])), (l0, .inr (5, [.int 0, .ref (E 0), .int 0])), (x, .inr (21, [.ref s0, .int 2]))] := hD
      have hK : va_K (dC, dI) vwCl [] s := hK
      refine W.widen (k := 0) (n := 0) (Nat.le_of_ble_eq_true rfl) (Nat.le_of_ble_eq_true rfl) ?_
      refine lv_if_ne (tgt := 74) hx hb dX15_addDevice_41 (by decide) (fun _ => ?_) (fun c9 => absurd c9 (by decide))
      refine lv_iconst (v := 0) hx hb dX15_addDevice_74 (by decide) ?_
      have hP9 := hP.sub (ws' := [(x, .inr (21, [.ref s0, .int 2]))]) [2] rfl
      have hD9 := hD.sub (ws' := [(x, .inr (21, [.ref s0, .int 2]))]) [2] (by decide) rfl
      have hK9 := hK.sub (tys' := []) [] rfl
      refine W.widen (k := 0) (n := 0) (Nat.le_of_ble_eq_true rfl) (Nat.le_of_ble_eq_true rfl) ?_
      exact W.iret (v := 0) hx hb hr (fun t ht hW => ⟨⟨0, (), rfl, rfl, pst_of hP9 hD9 hK9 ht hW⟩, hS.F ht⟩) hS.2.2 dX15_addDevice_75

set_option maxHeartbeats 4000000 in
set_option maxRecDepth 100000 in
theorem c_rm_addDevice_n (l : Launch) (dC : Nat → ClassId) (dI : Nat → Nat → Nat) (E : Nat → Nat) (x : Nat) (s0 : Nat) (l0 : Nat) (l1 : Nat) (l2 : Nat) (l3 : Nat) (l4 : Nat) (l5 : Nat) (l6 : Nat) (l7 : Nat) (l8 : Nat) (th : Int32) (k : Int32) (b : Int32) (sz : Nat) (hk : ¬ (k = 115 ∨ k = 101 ∨ k = 108)) : Met l yX15_addDevice wsX15_addDevice ({ frames := 1, cells := 0, slots := 0, locals := 22 }) (va_Pc [.ref x, .int k, .int b] (pre dC dI E [(x, .inr (21, [.ref s0, .int th])), (s0, .inr (20, [.ref l0, .ref l1, .ref l2, .ref l3, .ref l4, .ref l5, .ref l6, .ref l7, .ref l8, .int 10, .int 100, .int 50, .int 0, .int 0])), (l0, .inr (5, [.int 0, .ref (E 0), .int 0]))] [] sz)) (va_Qi (fun (r : Int32) (_ : Unit) => r = 0) (fun _ t => pst dC dI (va_A [(x, .inr (21, [.ref s0, .int th])), (s0, .inr (20, [.ref l0, .ref l1, .ref l2, .ref l3, .ref l4, .ref l5, .ref l6, .ref l7, .ref l8, .int 10, .int 100, .int 50, .int 0, .int 0])), (l0, .inr (5, [.int 0, .ref (E 0), .int 0]))] sz) [(x, .inr (21, [.ref s0, .int 1]))] [] t) (va_A [(x, .inr (21, [.ref s0, .int th])), (s0, .inr (20, [.ref l0, .ref l1, .ref l2, .ref l3, .ref l4, .ref l5, .ref l6, .ref l7, .ref l8, .int 10, .int 100, .int 50, .int 0, .int 0])), (l0, .inr (5, [.int 0, .ref (E 0), .int 0]))] sz)) 0 0 (va_A [(x, .inr (21, [.ref s0, .int th])), (s0, .inr (20, [.ref l0, .ref l1, .ref l2, .ref l3, .ref l4, .ref l5, .ref l6, .ref l7, .ref l8, .int 10, .int 100, .int 50, .int 0, .int 0])), (l0, .inr (5, [.int 0, .ref (E 0), .int 0]))] sz) := by
  refine Met.ofW (cc := cX15_addDevice) (maxL := 3) (ret := (some .int)) (by decide) rfl ?_
  intro p e s m args below meth c s₁ B hml hv
  obtain ⟨rfl, hsz, hP, hK, hD0, hE, hZ0⟩ := hv
  have hx := B.exec
  have hb := B.bytes
  have hr := B.returns
  have hts := atoms_spec (ws := wsX15_addDevice) B.pre
  have hown : s.vm.findClass RX15 = some m.cls := findClass_of_methodNamed B.named
  have hlocks := B.notSynchronized
  subst hsz
  have hD := hD0.self (sz := s.heap.size)
  generalize hAe : va_A [(x, .inr (21, [.ref s0, .int th])), (s0, .inr (20, [.ref l0, .ref l1, .ref l2, .ref l3, .ref l4, .ref l5, .ref l6, .ref l7, .ref l8, .int 10, .int 100, .int 50, .int 0, .int 0])), (l0, .inr (5, [.int 0, .ref (E 0), .int 0]))] s.heap.size = A at hD hZ0 ⊢
  have hZ := hZ0
  have hA : ∀ q : Nat, s.heap.size ≤ q → A q := fun q h => by rw [← hAe]; exact Or.inr h
  have hS : va_S A s.heap s.heap [] := va_S.rf
  have hP : va_P (dC, dI) vwCl [(x, .inr (21, [.ref s0, .int th])), (s0, .inr (20, [.ref l0, .ref l1, .ref l2, .ref l3, .ref l4, .ref l5, .ref l6, .ref l7, .ref l8, .int 10, .int 100, .int 50, .int 0, .int 0])), (l0, .inr (5, [.int 0, .ref (E 0), .int 0]))] s.heap := hP
  have hl := lv_entry ([.ref x, .int k, .int b]) (n := 3) (Nat.le_of_ble_eq_true rfl)
  rw [lg_entry_eq]
  generalize (lg_sl ([.ref x, .int k, .int b]) ++ List.replicate (3 - (lg_sl ([.ref x, .int k, .int b])).length) Slot.unset).toArray = ls at hl ⊢
  have hl : lv_has ls 3 [(0, .ref x), (1, .int k), (2, .int b)] := hl
  refine lv_aload_n hx hb dX15_addDevice_0 rfl (lv_at hl 0 rfl) ?_
  refine lv_iload_n hx hb dX15_addDevice_1 rfl (lv_at hl 1 rfl) ?_
  refine lv_bipush (v := 115) hx hb dX15_addDevice_2 (by decide) ?_
  refine lv_icmp_eq (tgt := 19) hx hb dX15_addDevice_4 (by decide) (fun c9 => (hk (Or.inl c9)).elim) (fun c_1 => ?_)
  refine lv_iload_n hx hb dX15_addDevice_7 rfl (lv_at hl 1 rfl) ?_
  refine lv_bipush (v := 101) hx hb dX15_addDevice_8 (by decide) ?_
  refine lv_icmp_eq (tgt := 19) hx hb dX15_addDevice_10 (by decide) (fun c9 => (hk (Or.inr (Or.inl c9))).elim) (fun c_2 => ?_)
  refine lv_iload_n hx hb dX15_addDevice_13 rfl (lv_at hl 1 rfl) ?_
  refine lv_bipush (v := 108) hx hb dX15_addDevice_14 (by decide) ?_
  refine lv_icmp_ne (tgt := 23) hx hb dX15_addDevice_16 (by decide) (fun c_3 => ?_) (fun c9 => (hk (Or.inr (Or.inr c9))).elim)
  refine lv_iconst (v := 0) hx hb dX15_addDevice_23 (by decide) ?_
  refine lv_iconst (v := 1) hx hb dX15_addDevice_24 (by decide) ?_
  have hPc := hP.sub (ws' := [(x, .inr (21, [.ref s0, .int th]))]) [0] rfl
  have hDc := hD.sub (ws' := [(x, .inr (21, [.ref s0, .int th]))]) [0] (by decide) rfl
  have hKc := hK.sub (tys' := []) [] rfl
  have hFc := va_free (wc := [(x, .inr (21, [.ref s0, .int th]))]) hD hS hA [0] rfl
  refine va_calli (va_runV (As := [.int 0, .int 1]) (rest := []) ⟨hx, hb, hml, hown, hts⟩ (c_rm_no_0 l dC dI E x s0 th 1 s.heap.size) (cwV 2 hts gX15_addDevice_X15_no rfl rfl rfl (by decide +kernel) ⟨(Nat.le_of_ble_eq_true rfl), (Nat.le_of_ble_eq_true rfl)⟩) ⟨pre_blind, va_recv hKc hPc (ci := 21) (q0 := 0) rfl rfl, pre_call hPc hDc hKc hFc hE hZ hS⟩ rfl rfl hl.1 rfl (lv_room (Nat.le_of_ble_eq_true rfl)) dX15_addDevice_25 ⟨(Nat.le_of_ble_eq_true rfl), (Nat.le_of_ble_eq_true rfl)⟩) hS (fun q _ h => hFc q h) hFc (fun r u t H1 locs1 ht hvm hw hB hz1 hk1 hS => ?_)
  have hw9 : r = 1 := hw
  rw [hw9]
  obtain ⟨hP, hD, hK⟩ := pst_join (wc := [(x, .inr (21, [.ref s0, .int th]))]) (wr := [(s0, .inr (20, [.ref l0, .ref l1, .ref l2, .ref l3, .ref l4, .ref l5, .ref l6, .ref l7, .ref l8, .int 10, .int 100, .int 50, .int 0, .int 0])), (l0, .inr (5, [.int 0, .ref (E 0), .int 0]))]) (w1 := [(x, .inr (21, [.ref s0, .int 1]))]) (tr := []) (t1 := []) hP hD hK [0] [1, 2] [] rfl rfl rfl (by decide) (by decide) hk1 hFc ht hvm hB
  generalize H1 = H at hP hS ⊢
  have hP : va_P (dC, dI) vwCl [(s0, .inr (20, [.ref l0, .ref l1, .ref l2, .ref l3, .ref l4, .ref l5, .ref l6, .ref l7, .ref l8, .int 10, .int 100, .int 50, .int 0, .int 0])), (l0, .inr (5, [.int 0, .ref (E 0), .int 0])), (x, .inr (21, [.ref s0, .int 1]))] H := hP
  have hD : va_D A [(s0, .inr (20, [.ref l0, .ref l1, .ref l2, .ref l3, .ref l4, .ref l5, .ref l6, .ref l7, .ref l8, .int 10, .int 100, .int 50, .int 0, .int 0])), (l0, .inr (5, [.int 0, .ref (E 0), .int 0])), (x, .inr (21, [.ref s0, .int 1]))] := hD
  have hK : va_K (dC, dI) vwCl [] s := hK
  refine W.widen (k := 0) (n := 0) (Nat.le_of_ble_eq_true rfl) (Nat.le_of_ble_eq_true rfl) ?_
  refine lv_if_ne (tgt := 74) hx hb dX15_addDevice_28 (by decide) (fun _ => ?_) (fun c9 => absurd c9 (by decide))
  refine lv_iconst (v := 0) hx hb dX15_addDevice_74 (by decide) ?_
  have hP9 := hP.sub (ws' := [(x, .inr (21, [.ref s0, .int 1]))]) [2] rfl
  have hD9 := hD.sub (ws' := [(x, .inr (21, [.ref s0, .int 1]))]) [2] (by decide) rfl
  have hK9 := hK.sub (tys' := []) [] rfl
  refine W.widen (k := 0) (n := 0) (Nat.le_of_ble_eq_true rfl) (Nat.le_of_ble_eq_true rfl) ?_
  exact W.iret (v := 0) hx hb hr (fun t ht hW => ⟨⟨0, (), rfl, rfl, pst_of hP9 hD9 hK9 ht hW⟩, hS.F ht⟩) hS.2.2 dX15_addDevice_75

set_option maxHeartbeats 4000000 in
set_option maxRecDepth 100000 in
theorem c_rm_setDevice (l : Launch) (dC : Nat → ClassId) (dI : Nat → Nat → Nat) (E : Nat → Nat) (x : Nat) (s0 : Nat) (l0 : Nat) (l1 : Nat) (l2 : Nat) (l3 : Nat) (l4 : Nat) (l5 : Nat) (l6 : Nat) (l7 : Nat) (l8 : Nat) (th : Int32) (a : Int32) (b : Int32) (sz : Nat) : Met l yX15_setDevice wsX15_setDevice ({ frames := 2, cells := 0, slots := 0, locals := 43 }) (va_Pc [.ref x, .int a, .int b] (pre dC dI E [(x, .inr (21, [.ref s0, .int th])), (s0, .inr (20, [.ref l0, .ref l1, .ref l2, .ref l3, .ref l4, .ref l5, .ref l6, .ref l7, .ref l8, .int 10, .int 100, .int 50, .int 0, .int 0])), (l4, .inr (5, [.int 0, .ref (E 0), .int 0]))] [] sz)) (va_Qi (fun (r : Int32) (_ : Unit) => r = 0) (fun _ t => pst dC dI (va_A [(x, .inr (21, [.ref s0, .int th])), (s0, .inr (20, [.ref l0, .ref l1, .ref l2, .ref l3, .ref l4, .ref l5, .ref l6, .ref l7, .ref l8, .int 10, .int 100, .int 50, .int 0, .int 0])), (l4, .inr (5, [.int 0, .ref (E 0), .int 0]))] sz) [(x, .inr (21, [.ref s0, .int 1]))] [] t) (va_A [(x, .inr (21, [.ref s0, .int th])), (s0, .inr (20, [.ref l0, .ref l1, .ref l2, .ref l3, .ref l4, .ref l5, .ref l6, .ref l7, .ref l8, .int 10, .int 100, .int 50, .int 0, .int 0])), (l4, .inr (5, [.int 0, .ref (E 0), .int 0]))] sz)) 0 0 (va_A [(x, .inr (21, [.ref s0, .int th])), (s0, .inr (20, [.ref l0, .ref l1, .ref l2, .ref l3, .ref l4, .ref l5, .ref l6, .ref l7, .ref l8, .int 10, .int 100, .int 50, .int 0, .int 0])), (l4, .inr (5, [.int 0, .ref (E 0), .int 0]))] sz) := by
  refine Met.ofW (cc := cX15_setDevice) (maxL := 5) (ret := (some .boolean)) (by decide) rfl ?_
  intro p e s m args below meth c s₁ B hml hv
  obtain ⟨rfl, hsz, hP, hK, hD0, hE, hZ0⟩ := hv
  have hx := B.exec
  have hb := B.bytes
  have hr := B.returns
  have hts := atoms_spec (ws := wsX15_setDevice) B.pre
  have hown : s.vm.findClass RX15 = some m.cls := findClass_of_methodNamed B.named
  have hlocks := B.notSynchronized
  subst hsz
  have hD := hD0.self (sz := s.heap.size)
  generalize hAe : va_A [(x, .inr (21, [.ref s0, .int th])), (s0, .inr (20, [.ref l0, .ref l1, .ref l2, .ref l3, .ref l4, .ref l5, .ref l6, .ref l7, .ref l8, .int 10, .int 100, .int 50, .int 0, .int 0])), (l4, .inr (5, [.int 0, .ref (E 0), .int 0]))] s.heap.size = A at hD hZ0 ⊢
  have hZ := hZ0
  have hA : ∀ q : Nat, s.heap.size ≤ q → A q := fun q h => by rw [← hAe]; exact Or.inr h
  have hS : va_S A s.heap s.heap [] := va_S.rf
  have hP : va_P (dC, dI) vwCl [(x, .inr (21, [.ref s0, .int th])), (s0, .inr (20, [.ref l0, .ref l1, .ref l2, .ref l3, .ref l4, .ref l5, .ref l6, .ref l7, .ref l8, .int 10, .int 100, .int 50, .int 0, .int 0])), (l4, .inr (5, [.int 0, .ref (E 0), .int 0]))] s.heap := hP
  have hl := lv_entry ([.ref x, .int a, .int b]) (n := 5) (Nat.le_of_ble_eq_true rfl)
  rw [lg_entry_eq]
  generalize (lg_sl ([.ref x, .int a, .int b]) ++ List.replicate (5 - (lg_sl ([.ref x, .int a, .int b])).length) Slot.unset).toArray = ls at hl ⊢
  have hl : lv_has ls 5 [(0, .ref x), (1, .int a), (2, .int b)] := hl
  refine lv_aload_n hx hb dX15_setDevice_0 rfl (lv_at hl 0 rfl) ?_
  refine lv_aload_n hx hb dX15_setDevice_1 rfl (lv_at hl 0 rfl) ?_
  refine lv_iload_n hx hb dX15_setDevice_2 rfl (lv_at hl 1 rfl) ?_
  have hPc := hP.sub (ws' := [(x, .inr (21, [.ref s0, .int th])), (s0, .inr (20, [.ref l0, .ref l1, .ref l2, .ref l3, .ref l4, .ref l5, .ref l6, .ref l7, .ref l8, .int 10, .int 100, .int 50, .int 0, .int 0])), (l4, .inr (5, [.int 0, .ref (E 0), .int 0]))]) [0, 1, 2] rfl
  have hDc := hD.sub (ws' := [(x, .inr (21, [.ref s0, .int th])), (s0, .inr (20, [.ref l0, .ref l1, .ref l2, .ref l3, .ref l4, .ref l5, .ref l6, .ref l7, .ref l8, .int 10, .int 100, .int 50, .int 0, .int 0])), (l4, .inr (5, [.int 0, .ref (E 0), .int 0]))]) [0, 1, 2] (by decide) rfl
  have hKc := hK.sub (tys' := []) [] rfl
  have hFc := va_free (wc := [(x, .inr (21, [.ref s0, .int th])), (s0, .inr (20, [.ref l0, .ref l1, .ref l2, .ref l3, .ref l4, .ref l5, .ref l6, .ref l7, .ref l8, .int 10, .int 100, .int 50, .int 0, .int 0])), (l4, .inr (5, [.int 0, .ref (E 0), .int 0]))]) hD hS hA [0, 1, 2] rfl
  refine va_calli (va_runV (As := [.int a]) (rest := [.ref x]) ⟨hx, hb, hml, hown, hts⟩ (c_rm_isDevice l dC dI E x s0 l0 l1 l2 l3 l4 l5 l6 l7 l8 th a s.heap.size) (cwV 1 hts gX15_setDevice_X15_isDevice rfl rfl rfl (by decide +kernel) ⟨(Nat.le_of_ble_eq_true rfl), (Nat.le_of_ble_eq_true rfl)⟩) ⟨pre_blind, va_recv hKc hPc (ci := 21) (q0 := 0) rfl rfl, pre_call hPc hDc hKc hFc hE hZ hS⟩ rfl rfl hl.1 rfl (lv_room (Nat.le_of_ble_eq_true rfl)) dX15_setDevice_3 ⟨(Nat.le_of_ble_eq_true rfl), (Nat.le_of_ble_eq_true rfl)⟩) hS (fun q _ h => hFc q h) hFc (fun r u t H1 locs1 ht hvm hw hB hz1 hk1 hS => ?_)
  have hw9 : r = 0 := hw
  rw [hw9]
  obtain ⟨hP, hD, hK⟩ := pst_join (wc := [(x, .inr (21, [.ref s0, .int th])), (s0, .inr (20, [.ref l0, .ref l1, .ref l2, .ref l3, .ref l4, .ref l5, .ref l6, .ref l7, .ref l8, .int 10, .int 100, .int 50, .int 0, .int 0])), (l4, .inr (5, [.int 0, .ref (E 0), .int 0]))]) (wr := []) (w1 := [(x, .inr (21, [.ref s0, .int th])), (s0, .inr (20, [.ref l0, .ref l1, .ref l2, .ref l3, .ref l4, .ref l5, .ref l6, .ref l7, .ref l8, .int 10, .int 100, .int 50, .int 0, .int 0])), (l4, .inr (5, [.int 0, .ref (E 0), .int 0]))]) (tr := []) (t1 := []) hP hD hK [0, 1, 2] [] [] rfl rfl rfl (by decide) (by decide) hk1 hFc ht hvm hB
  generalize H1 = H at hP hS ⊢
  have hP : va_P (dC, dI) vwCl [(x, .inr (21, [.ref s0, .int th])), (s0, .inr (20, [.ref l0, .ref l1, .ref l2, .ref l3, .ref l4, .ref l5, .ref l6, .ref l7, .ref l8, .int 10, .int 100, .int 50, .int 0, .int 0])), (l4, .inr (5, [.int 0, .ref (E 0), .int 0]))] H := hP
  have hD : va_D A [(x, .inr (21, [.ref s0, .int th])), (s0, .inr (20, [.ref l0, .ref l1, .ref l2, .ref l3, .ref l4, .ref l5, .ref l6, .ref l7, .ref l8, .int 10, .int 100, .int 50, .int 0, .int 0])), (l4, .inr (5, [.int 0, .ref (E 0), .int 0]))] := hD
  have hK : va_K (dC, dI) vwCl [] s := hK
  refine W.widen (k := 0) (n := 0) (Nat.le_of_ble_eq_true rfl) (Nat.le_of_ble_eq_true rfl) ?_
  refine lv_iconst (v := 1) hx hb dX15_setDevice_6 (by decide) ?_
  have hPc := hP.sub (ws' := [(x, .inr (21, [.ref s0, .int th]))]) [0] rfl
  have hDc := hD.sub (ws' := [(x, .inr (21, [.ref s0, .int th]))]) [0] (by decide) rfl
  have hKc := hK.sub (tys' := []) [] rfl
  have hFc := va_free (wc := [(x, .inr (21, [.ref s0, .int th]))]) hD hS hA [0] rfl
  refine va_calli (va_runV (As := [.int 0, .int 1]) (rest := []) ⟨hx, hb, hml, hown, hts⟩ (c_rm_no_0 l dC dI E x s0 th 1 H.size) (cwV 2 hts gX15_setDevice_X15_no rfl rfl rfl (by decide +kernel) ⟨(Nat.le_of_ble_eq_true rfl), (Nat.le_of_ble_eq_true rfl)⟩) ⟨pre_blind, va_recv hKc hPc (ci := 21) (q0 := 0) rfl rfl, pre_call hPc hDc hKc hFc hE hZ hS⟩ rfl rfl hl.1 rfl (lv_room (Nat.le_of_ble_eq_true rfl)) dX15_setDevice_7 ⟨(Nat.le_of_ble_eq_true rfl), (Nat.le_of_ble_eq_true rfl)⟩) hS (fun q _ h => hFc q h) hFc (fun r u t H1 locs1 ht hvm hw hB hz1 hk1 hS => ?_)
  have hw9 : r = 1 := hw
  rw [hw9]
  obtain ⟨hP, hD, hK⟩ := pst_join (wc := [(x, .inr (21, [.ref s0, .int th]))]) (wr := [(s0, .inr (20, [.ref l0, .ref l1, .ref l2, .ref l3, .ref l4, .ref l5, .ref l6, .ref l7, .ref l8, .int 10, .int 100, .int 50, .int 0, .int 0])), (l4, .inr (5, [.int 0, .ref (E 0), .int 0]))]) (w1 := [(x, .inr (21, [.ref s0, .int 1]))]) (tr := []) (t1 := []) hP hD hK [0] [1, 2] [] rfl rfl rfl (by decide) (by decide) hk1 hFc ht hvm hB
  generalize H1 = H at hP hS ⊢
  have hP : va_P (dC, dI) vwCl [(s0, .inr (20, [.ref l0, .ref l1, .ref l2, .ref l3, .ref l4, .ref l5, .ref l6, .ref l7, .ref l8, .int 10, .int 100, .int 50, .int 0, .int 0])), (l4, .inr (5, [.int 0, .ref (E 0), .int 0])), (x, .inr (21, [.ref s0, .int 1]))] H := hP
  have hD : va_D A [(s0, .inr (20, [.ref l0, .ref l1, .ref l2, .ref l3, .ref l4, .ref l5, .ref l6, .ref l7, .ref l8, .int 10, .int 100, .int 50, .int 0, .int 0])), (l4, .inr (5, [.int 0, .ref (E 0), .int 0])), (x, .inr (21, [.ref s0, .int 1]))] := hD
  have hK : va_K (dC, dI) vwCl [] s := hK
  refine W.widen (k := 0) (n := 0) (Nat.le_of_ble_eq_true rfl) (Nat.le_of_ble_eq_true rfl) ?_
  refine lv_if_eq (tgt := 15) hx hb dX15_setDevice_10 (by decide) (fun c9 => absurd c9 (by decide)) (fun _ => ?_)
  refine lv_iconst (v := 0) hx hb dX15_setDevice_13 (by decide) ?_
  have hP9 := hP.sub (ws' := [(x, .inr (21, [.ref s0, .int 1]))]) [2] rfl
  have hD9 := hD.sub (ws' := [(x, .inr (21, [.ref s0, .int 1]))]) [2] (by decide) rfl
  have hK9 := hK.sub (tys' := []) [] rfl
  refine W.widen (k := 0) (n := 0) (Nat.le_of_ble_eq_true rfl) (Nat.le_of_ble_eq_true rfl) ?_
  exact W.zret (v := 0) hx hb hr rfl (fun t ht hW => ⟨⟨0, (), rfl, rfl, pst_of hP9 hD9 hK9 ht hW⟩, hS.F ht⟩) hS.2.2 dX15_setDevice_14

set_option maxHeartbeats 4000000 in
set_option maxRecDepth 100000 in
theorem c_rm_setPanels_y (l : Launch) (dC : Nat → ClassId) (dI : Nat → Nat → Nat) (E : Nat → Nat) (x : Nat) (s0 : Nat) (l0 : Nat) (l1 : Nat) (l2 : Nat) (l3 : Nat) (l4 : Nat) (l5 : Nat) (l6 : Nat) (l7 : Nat) (l8 : Nat) (th : Int32) (a : Int32) (sz : Nat) (hla : ¬ a < 0) (hua : ¬ 40 < a) : Met l yX15_setPanels wsX15_setPanels ({ frames := 1, cells := 0, slots := 0, locals := 22 }) (va_Pc [.ref x, .int a] (pre dC dI E [(x, .inr (21, [.ref s0, .int th])), (s0, .inr (20, [.ref l0, .ref l1, .ref l2, .ref l3, .ref l4, .ref l5, .ref l6, .ref l7, .ref l8, .int 10, .int 100, .int 50, .int 0, .int 0]))] [] sz)) (va_Qi (fun (r : Int32) (_ : Unit) => r = 10) (fun _ t => pst dC dI (va_A [(x, .inr (21, [.ref s0, .int th])), (s0, .inr (20, [.ref l0, .ref l1, .ref l2, .ref l3, .ref l4, .ref l5, .ref l6, .ref l7, .ref l8, .int 10, .int 100, .int 50, .int 0, .int 0]))] sz) [(x, .inr (21, [.ref s0, .int 0]))] [] t) (va_A [(x, .inr (21, [.ref s0, .int th])), (s0, .inr (20, [.ref l0, .ref l1, .ref l2, .ref l3, .ref l4, .ref l5, .ref l6, .ref l7, .ref l8, .int 10, .int 100, .int 50, .int 0, .int 0]))] sz)) 0 0 (va_A [(x, .inr (21, [.ref s0, .int th])), (s0, .inr (20, [.ref l0, .ref l1, .ref l2, .ref l3, .ref l4, .ref l5, .ref l6, .ref l7, .ref l8, .int 10, .int 100, .int 50, .int 0, .int 0]))] sz) := by
  refine Met.ofW (cc := cX15_setPanels) (maxL := 3) (ret := (some .int)) (by decide) rfl ?_
  intro p e s m args below meth c s₁ B hml hv
  obtain ⟨rfl, hsz, hP, hK, hD0, hE, hZ0⟩ := hv
  have hx := B.exec
  have hb := B.bytes
  have hr := B.returns
  have hts := atoms_spec (ws := wsX15_setPanels) B.pre
  have hown : s.vm.findClass RX15 = some m.cls := findClass_of_methodNamed B.named
  have hlocks := B.notSynchronized
  subst hsz
  have hD := hD0.self (sz := s.heap.size)
  generalize hAe : va_A [(x, .inr (21, [.ref s0, .int th])), (s0, .inr (20, [.ref l0, .ref l1, .ref l2, .ref l3, .ref l4, .ref l5, .ref l6, .ref l7, .ref l8, .int 10, .int 100, .int 50, .int 0, .int 0]))] s.heap.size = A at hD hZ0 ⊢
  have hZ := hZ0
  have hA : ∀ q : Nat, s.heap.size ≤ q → A q := fun q h => by rw [← hAe]; exact Or.inr h
  have hS : va_S A s.heap s.heap [] := va_S.rf
  have hP : va_P (dC, dI) vwCl [(x, .inr (21, [.ref s0, .int th])), (s0, .inr (20, [.ref l0, .ref l1, .ref l2, .ref l3, .ref l4, .ref l5, .ref l6, .ref l7, .ref l8, .int 10, .int 100, .int 50, .int 0, .int 0]))] s.heap := hP
  have hl := lv_entry ([.ref x, .int a]) (n := 3) (Nat.le_of_ble_eq_true rfl)
  rw [lg_entry_eq]
  generalize (lg_sl ([.ref x, .int a]) ++ List.replicate (3 - (lg_sl ([.ref x, .int a])).length) Slot.unset).toArray = ls at hl ⊢
  have hl : lv_has ls 3 [(0, .ref x), (1, .int a)] := hl
  refine lv_aload_n hx hb dX15_setPanels_0 rfl (lv_at hl 0 rfl) ?_
  refine lv_iload_n hx hb dX15_setPanels_1 rfl (lv_at hl 1 rfl) ?_
  refine lv_iconst (v := 0) hx hb dX15_setPanels_2 (by decide) ?_
  refine lv_bipush (v := 40) hx hb dX15_setPanels_3 (by decide) ?_
  have hPc := hP.sub (ws' := []) [] rfl
  have hDc := hD.sub (ws' := []) [] (by decide) rfl
  have hKc := hK.sub (tys' := []) [] rfl
  have hFc := va_free (wc := []) hD hS hA [] rfl
  refine va_calli (va_runS (As := [.int a, .int 0, .int 40]) (rest := [.ref x]) ⟨hx, hb, hml, hown, hts⟩ (c_rm_isIn_y l dC dI E a 0 40 s.heap.size hla hua) (va_cwS 3 hts gX15_setPanels_X15_isIn rfl rfl rfl (by decide +kernel) ⟨(Nat.le_of_ble_eq_true rfl), (Nat.le_of_ble_eq_true rfl)⟩) ⟨pre_blind, pre_call hPc hDc hKc hFc hE hZ hS⟩ rfl rfl hl.1 rfl (lv_room (Nat.le_of_ble_eq_true rfl)) dX15_setPanels_5 ⟨(Nat.le_of_ble_eq_true rfl), (Nat.le_of_ble_eq_true rfl)⟩) hS (fun q _ h => hFc q h) hFc (fun r u t H1 locs1 ht hvm hw hB hz1 hk1 hS => ?_)
  have hw9 : r = 1 := hw
  rw [hw9]
  obtain ⟨hP, hD, hK⟩ := pst_join (wc := []) (wr := [(x, .inr (21, [.ref s0, .int th])), (s0, .inr (20, [.ref l0, .ref l1, .ref l2, .ref l3, .ref l4, .ref l5, .ref l6, .ref l7, .ref l8, .int 10, .int 100, .int 50, .int 0, .int 0]))]) (w1 := []) (tr := []) (t1 := []) hP hD hK [] [0, 1] [] rfl rfl rfl (by decide) (by decide) hk1 hFc ht hvm hB
  generalize H1 = H at hP hS ⊢
  have hP : va_P (dC, dI) vwCl [(x, .inr (21, [.ref s0, .int th])), (s0, .inr (20, [.ref l0, .ref l1, .ref l2, .ref l3, .ref l4, .ref l5, .ref l6, .ref l7, .ref l8, .int 10, .int 100, .int 50, .int 0, .int 0]))] H := hP
  have hD : va_D A [(x, .inr (21, [.ref s0, .int th])), (s0, .inr (20, [.ref l0, .ref l1, .ref l2, .ref l3, .ref l4, .ref l5, .ref l6, .ref l7, .ref l8, .int 10, .int 100, .int 50, .int 0, .int 0]))] := hD
  have hK : va_K (dC, dI) vwCl [] s := hK
  refine W.widen (k := 0) (n := 0) (Nat.le_of_ble_eq_true rfl) (Nat.le_of_ble_eq_true rfl) ?_
  refine lv_iconst (v := 1) hx hb dX15_setPanels_8 (by decide) ?_
  have hPc := hP.sub (ws' := [(x, .inr (21, [.ref s0, .int th]))]) [0] rfl
  have hDc := hD.sub (ws' := [(x, .inr (21, [.ref s0, .int th]))]) [0] (by decide) rfl
  have hKc := hK.sub (tys' := []) [] rfl
  have hFc := va_free (wc := [(x, .inr (21, [.ref s0, .int th]))]) hD hS hA [0] rfl
  refine va_calli (va_runV (As := [.int 1, .int 1]) (rest := []) ⟨hx, hb, hml, hown, hts⟩ (c_rm_no_1 l dC dI E x s0 th 1 H.size) (cwV 2 hts gX15_setPanels_X15_no rfl rfl rfl (by decide +kernel) ⟨(Nat.le_of_ble_eq_true rfl), (Nat.le_of_ble_eq_true rfl)⟩) ⟨pre_blind, va_recv hKc hPc (ci := 21) (q0 := 0) rfl rfl, pre_call hPc hDc hKc hFc hE hZ hS⟩ rfl rfl hl.1 rfl (lv_room (Nat.le_of_ble_eq_true rfl)) dX15_setPanels_9 ⟨(Nat.le_of_ble_eq_true rfl), (Nat.le_of_ble_eq_true rfl)⟩) hS (fun q _ h => hFc q h) hFc (fun r u t H1 locs1 ht hvm hw hB hz1 hk1 hS => ?_)
  have hw9 : r = 0 := hw
  rw [hw9]
  obtain ⟨hP, hD, hK⟩ := pst_join (wc := [(x, .inr (21, [.ref s0, .int th]))]) (wr := [(s0, .inr (20, [.ref l0, .ref l1, .ref l2, .ref l3, .ref l4, .ref l5, .ref l6, .ref l7, .ref l8, .int 10, .int 100, .int 50, .int 0, .int 0]))]) (w1 := [(x, .inr (21, [.ref s0, .int 0]))]) (tr := []) (t1 := []) hP hD hK [0] [1] [] rfl rfl rfl (by decide) (by decide) hk1 hFc ht hvm hB
  generalize H1 = H at hP hS ⊢
  have hP : va_P (dC, dI) vwCl [(s0, .inr (20, [.ref l0, .ref l1, .ref l2, .ref l3, .ref l4, .ref l5, .ref l6, .ref l7, .ref l8, .int 10, .int 100, .int 50, .int 0, .int 0])), (x, .inr (21, [.ref s0, .int 0]))] H := hP
  have hD : va_D A [(s0, .inr (20, [.ref l0, .ref l1, .ref l2, .ref l3, .ref l4, .ref l5, .ref l6, .ref l7, .ref l8, .int 10, .int 100, .int 50, .int 0, .int 0])), (x, .inr (21, [.ref s0, .int 0]))] := hD
  have hK : va_K (dC, dI) vwCl [] s := hK
  refine W.widen (k := 0) (n := 0) (Nat.le_of_ble_eq_true rfl) (Nat.le_of_ble_eq_true rfl) ?_
  refine lv_if_eq (tgt := 17) hx hb dX15_setPanels_12 (by decide) (fun _ => ?_) (fun c9 => absurd (by decide) c9)
  refine lv_aload_n hx hb dX15_setPanels_17 rfl (lv_at hl 0 rfl) ?_
  refine va_get (D := (dC, dI)) (ci := 21) (v := .ref s0) (C := RX15) (T := TX15) (N := 2) hx hb hts (by decide +kernel) hown hK hP 1 rfl rfl 0 (by decide) (hts (.fieldLink RX15 10 "OrbitdockModel" "station" "LOrbitdockModel$Station;") (by decide +kernel)) (fun _ h9 => h9) rfl dX15_setPanels_18 ?_
  refine va_get (D := (dC, dI)) (ci := 20) (v := .int 10) (C := RX14) (T := TX14) (N := 14) hx hb hts (by decide +kernel) hown hK hP 0 rfl rfl 9 (by decide) (hts (.fieldLink RX15 108 "OrbitdockModel$Station" "panels" "I") (by decide +kernel)) (fun _ h9 => h9) rfl dX15_setPanels_21 ?_
  refine lv_istore_n (lv' := [(2, .int 10), (0, .ref x), (1, .int a)]) hx hb dX15_setPanels_24 rfl hl (by decide) rfl (fun ls hl => ?_)
  refine lv_aload_n hx hb dX15_setPanels_25 rfl (lv_at hl 1 rfl) ?_
  refine va_get (D := (dC, dI)) (ci := 21) (v := .ref s0) (C := RX15) (T := TX15) (N := 2) hx hb hts (by decide +kernel) hown hK hP 1 rfl rfl 0 (by decide) (hts (.fieldLink RX15 10 "OrbitdockModel" "station" "LOrbitdockModel$Station;") (by decide +kernel)) (fun _ h9 => h9) rfl dX15_setPanels_26 ?_
  refine lv_iload_n hx hb dX15_setPanels_29 rfl (lv_at hl 2 rfl) ?_
  refine va_put (D := (dC, dI)) (ci := 20) (v := .int a) (ty := .int) (C := RX14) (T := TX14) (N := 14) hx hb hts (by decide +kernel) tyX14 tyX14_ok nmX14 hown hK hP hD hS 0 rfl rfl 9 (by decide) (hts (.fieldLink RX15 108 "OrbitdockModel$Station" "panels" "I") (by decide +kernel)) (fun _ h9 => h9) rfl (by decide +kernel) rfl rfl (Nat.le_of_ble_eq_true rfl) dX15_setPanels_30 (fun H locs hP hD hS => ?_)
  have hP : va_P (dC, dI) vwCl [(s0, .inr (20, [.ref l0, .ref l1, .ref l2, .ref l3, .ref l4, .ref l5, .ref l6, .ref l7, .ref l8, .int a, .int 100, .int 50, .int 0, .int 0])), (x, .inr (21, [.ref s0, .int 0]))] H := hP
  have hD : va_D A [(s0, .inr (20, [.ref l0, .ref l1, .ref l2, .ref l3, .ref l4, .ref l5, .ref l6, .ref l7, .ref l8, .int a, .int 100, .int 50, .int 0, .int 0])), (x, .inr (21, [.ref s0, .int 0]))] := hD
  refine lv_iload_n hx hb dX15_setPanels_33 rfl (lv_at hl 0 rfl) ?_
  have hP9 := hP.sub (ws' := [(x, .inr (21, [.ref s0, .int 0]))]) [1] rfl
  have hD9 := hD.sub (ws' := [(x, .inr (21, [.ref s0, .int 0]))]) [1] (by decide) rfl
  have hK9 := hK.sub (tys' := []) [] rfl
  refine W.widen (k := 0) (n := 0) (Nat.le_of_ble_eq_true rfl) (Nat.le_of_ble_eq_true rfl) ?_
  exact W.iret (v := 10) hx hb hr (fun t ht hW => ⟨⟨10, (), rfl, rfl, pst_of hP9 hD9 hK9 ht hW⟩, hS.F ht⟩) hS.2.2 dX15_setPanels_34

set_option maxHeartbeats 4000000 in
set_option maxRecDepth 100000 in
theorem c_rm_setPanels_n (l : Launch) (dC : Nat → ClassId) (dI : Nat → Nat → Nat) (E : Nat → Nat) (x : Nat) (s0 : Nat) (l0 : Nat) (l1 : Nat) (l2 : Nat) (l3 : Nat) (l4 : Nat) (l5 : Nat) (l6 : Nat) (l7 : Nat) (l8 : Nat) (th : Int32) (a : Int32) (sz : Nat) (h : ¬ (¬ a < 0 ∧ ¬ 40 < a)) : Met l yX15_setPanels wsX15_setPanels ({ frames := 1, cells := 0, slots := 0, locals := 22 }) (va_Pc [.ref x, .int a] (pre dC dI E [(x, .inr (21, [.ref s0, .int th])), (s0, .inr (20, [.ref l0, .ref l1, .ref l2, .ref l3, .ref l4, .ref l5, .ref l6, .ref l7, .ref l8, .int 10, .int 100, .int 50, .int 0, .int 0]))] [] sz)) (va_Qi (fun (r : Int32) (_ : Unit) => r = 0) (fun _ t => pst dC dI (va_A [(x, .inr (21, [.ref s0, .int th])), (s0, .inr (20, [.ref l0, .ref l1, .ref l2, .ref l3, .ref l4, .ref l5, .ref l6, .ref l7, .ref l8, .int 10, .int 100, .int 50, .int 0, .int 0]))] sz) [(x, .inr (21, [.ref s0, .int 1]))] [] t) (va_A [(x, .inr (21, [.ref s0, .int th])), (s0, .inr (20, [.ref l0, .ref l1, .ref l2, .ref l3, .ref l4, .ref l5, .ref l6, .ref l7, .ref l8, .int 10, .int 100, .int 50, .int 0, .int 0]))] sz)) 0 0 (va_A [(x, .inr (21, [.ref s0, .int th])), (s0, .inr (20, [.ref l0, .ref l1, .ref l2, .ref l3, .ref l4, .ref l5, .ref l6, .ref l7, .ref l8, .int 10, .int 100, .int 50, .int 0, .int 0]))] sz) := by
  refine Met.ofW (cc := cX15_setPanels) (maxL := 3) (ret := (some .int)) (by decide) rfl ?_
  intro p e s m args below meth c s₁ B hml hv
  obtain ⟨rfl, hsz, hP, hK, hD0, hE, hZ0⟩ := hv
  have hx := B.exec
  have hb := B.bytes
  have hr := B.returns
  have hts := atoms_spec (ws := wsX15_setPanels) B.pre
  have hown : s.vm.findClass RX15 = some m.cls := findClass_of_methodNamed B.named
  have hlocks := B.notSynchronized
  subst hsz
  have hD := hD0.self (sz := s.heap.size)
  generalize hAe : va_A [(x, .inr (21, [.ref s0, .int th])), (s0, .inr (20, [.ref l0, .ref l1, .ref l2, .ref l3, .ref l4, .ref l5, .ref l6, .ref l7, .ref l8, .int 10, .int 100, .int 50, .int 0, .int 0]))] s.heap.size = A at hD hZ0 ⊢
  have hZ := hZ0
  have hA : ∀ q : Nat, s.heap.size ≤ q → A q := fun q h => by rw [← hAe]; exact Or.inr h
  have hS : va_S A s.heap s.heap [] := va_S.rf
  have hP : va_P (dC, dI) vwCl [(x, .inr (21, [.ref s0, .int th])), (s0, .inr (20, [.ref l0, .ref l1, .ref l2, .ref l3, .ref l4, .ref l5, .ref l6, .ref l7, .ref l8, .int 10, .int 100, .int 50, .int 0, .int 0]))] s.heap := hP
  have hl := lv_entry ([.ref x, .int a]) (n := 3) (Nat.le_of_ble_eq_true rfl)
  rw [lg_entry_eq]
  generalize (lg_sl ([.ref x, .int a]) ++ List.replicate (3 - (lg_sl ([.ref x, .int a])).length) Slot.unset).toArray = ls at hl ⊢
  have hl : lv_has ls 3 [(0, .ref x), (1, .int a)] := hl
  refine lv_aload_n hx hb dX15_setPanels_0 rfl (lv_at hl 0 rfl) ?_
  refine lv_iload_n hx hb dX15_setPanels_1 rfl (lv_at hl 1 rfl) ?_
  refine lv_iconst (v := 0) hx hb dX15_setPanels_2 (by decide) ?_
  refine lv_bipush (v := 40) hx hb dX15_setPanels_3 (by decide) ?_
  have hPc := hP.sub (ws' := []) [] rfl
  have hDc := hD.sub (ws' := []) [] (by decide) rfl
  have hKc := hK.sub (tys' := []) [] rfl
  have hFc := va_free (wc := []) hD hS hA [] rfl
  refine va_calli (va_runS (As := [.int a, .int 0, .int 40]) (rest := [.ref x]) ⟨hx, hb, hml, hown, hts⟩ (c_rm_isIn_n l dC dI E a 0 40 s.heap.size h) (va_cwS 3 hts gX15_setPanels_X15_isIn rfl rfl rfl (by decide +kernel) ⟨(Nat.le_of_ble_eq_true rfl), (Nat.le_of_ble_eq_true rfl)⟩) ⟨pre_blind, pre_call hPc hDc hKc hFc hE hZ hS⟩ rfl rfl hl.1 rfl (lv_room (Nat.le_of_ble_eq_true rfl)) dX15_setPanels_5 ⟨(Nat.le_of_ble_eq_true rfl), (Nat.le_of_ble_eq_true rfl)⟩) hS (fun q _ h => hFc q h) hFc (fun r u t H1 locs1 ht hvm hw hB hz1 hk1 hS => ?_)
  have hw9 : r = 0 := hw
  rw [hw9]
  obtain ⟨hP, hD, hK⟩ := pst_join (wc := []) (wr := [(x, .inr (21, [.ref s0, .int th])), (s0, .inr (20, [.ref l0, .ref l1, .ref l2, .ref l3, .ref l4, .ref l5, .ref l6, .ref l7, .ref l8, .int 10, .int 100, .int 50, .int 0, .int 0]))]) (w1 := []) (tr := []) (t1 := []) hP hD hK [] [0, 1] [] rfl rfl rfl (by decide) (by decide) hk1 hFc ht hvm hB
  generalize H1 = H at hP hS ⊢
  have hP : va_P (dC, dI) vwCl [(x, .inr (21, [.ref s0, .int th])), (s0, .inr (20, [.ref l0, .ref l1, .ref l2, .ref l3, .ref l4, .ref l5, .ref l6, .ref l7, .ref l8, .int 10, .int 100, .int 50, .int 0, .int 0]))] H := hP
  have hD : va_D A [(x, .inr (21, [.ref s0, .int th])), (s0, .inr (20, [.ref l0, .ref l1, .ref l2, .ref l3, .ref l4, .ref l5, .ref l6, .ref l7, .ref l8, .int 10, .int 100, .int 50, .int 0, .int 0]))] := hD
  have hK : va_K (dC, dI) vwCl [] s := hK
  refine W.widen (k := 0) (n := 0) (Nat.le_of_ble_eq_true rfl) (Nat.le_of_ble_eq_true rfl) ?_
  refine lv_iconst (v := 1) hx hb dX15_setPanels_8 (by decide) ?_
  have hPc := hP.sub (ws' := [(x, .inr (21, [.ref s0, .int th]))]) [0] rfl
  have hDc := hD.sub (ws' := [(x, .inr (21, [.ref s0, .int th]))]) [0] (by decide) rfl
  have hKc := hK.sub (tys' := []) [] rfl
  have hFc := va_free (wc := [(x, .inr (21, [.ref s0, .int th]))]) hD hS hA [0] rfl
  refine va_calli (va_runV (As := [.int 0, .int 1]) (rest := []) ⟨hx, hb, hml, hown, hts⟩ (c_rm_no_0 l dC dI E x s0 th 1 H.size) (cwV 2 hts gX15_setPanels_X15_no rfl rfl rfl (by decide +kernel) ⟨(Nat.le_of_ble_eq_true rfl), (Nat.le_of_ble_eq_true rfl)⟩) ⟨pre_blind, va_recv hKc hPc (ci := 21) (q0 := 0) rfl rfl, pre_call hPc hDc hKc hFc hE hZ hS⟩ rfl rfl hl.1 rfl (lv_room (Nat.le_of_ble_eq_true rfl)) dX15_setPanels_9 ⟨(Nat.le_of_ble_eq_true rfl), (Nat.le_of_ble_eq_true rfl)⟩) hS (fun q _ h => hFc q h) hFc (fun r u t H1 locs1 ht hvm hw hB hz1 hk1 hS => ?_)
  have hw9 : r = 1 := hw
  rw [hw9]
  obtain ⟨hP, hD, hK⟩ := pst_join (wc := [(x, .inr (21, [.ref s0, .int th]))]) (wr := [(s0, .inr (20, [.ref l0, .ref l1, .ref l2, .ref l3, .ref l4, .ref l5, .ref l6, .ref l7, .ref l8, .int 10, .int 100, .int 50, .int 0, .int 0]))]) (w1 := [(x, .inr (21, [.ref s0, .int 1]))]) (tr := []) (t1 := []) hP hD hK [0] [1] [] rfl rfl rfl (by decide) (by decide) hk1 hFc ht hvm hB
  generalize H1 = H at hP hS ⊢
  have hP : va_P (dC, dI) vwCl [(s0, .inr (20, [.ref l0, .ref l1, .ref l2, .ref l3, .ref l4, .ref l5, .ref l6, .ref l7, .ref l8, .int 10, .int 100, .int 50, .int 0, .int 0])), (x, .inr (21, [.ref s0, .int 1]))] H := hP
  have hD : va_D A [(s0, .inr (20, [.ref l0, .ref l1, .ref l2, .ref l3, .ref l4, .ref l5, .ref l6, .ref l7, .ref l8, .int 10, .int 100, .int 50, .int 0, .int 0])), (x, .inr (21, [.ref s0, .int 1]))] := hD
  have hK : va_K (dC, dI) vwCl [] s := hK
  refine W.widen (k := 0) (n := 0) (Nat.le_of_ble_eq_true rfl) (Nat.le_of_ble_eq_true rfl) ?_
  refine lv_if_eq (tgt := 17) hx hb dX15_setPanels_12 (by decide) (fun c9 => absurd c9 (by decide)) (fun _ => ?_)
  refine lv_iconst (v := 0) hx hb dX15_setPanels_15 (by decide) ?_
  have hP9 := hP.sub (ws' := [(x, .inr (21, [.ref s0, .int 1]))]) [1] rfl
  have hD9 := hD.sub (ws' := [(x, .inr (21, [.ref s0, .int 1]))]) [1] (by decide) rfl
  have hK9 := hK.sub (tys' := []) [] rfl
  refine W.widen (k := 0) (n := 0) (Nat.le_of_ble_eq_true rfl) (Nat.le_of_ble_eq_true rfl) ?_
  exact W.iret (v := 0) hx hb hr (fun t ht hW => ⟨⟨0, (), rfl, rfl, pst_of hP9 hD9 hK9 ht hW⟩, hS.F ht⟩) hS.2.2 dX15_setPanels_16

set_option maxHeartbeats 4000000 in
set_option maxRecDepth 100000 in
theorem c_rm_board (l : Launch) (dC : Nat → ClassId) (dI : Nat → Nat → Nat) (E : Nat → Nat) (x : Nat) (s0 : Nat) (l0 : Nat) (l1 : Nat) (l2 : Nat) (l3 : Nat) (l4 : Nat) (l5 : Nat) (l6 : Nat) (l7 : Nat) (l8 : Nat) (th : Int32) (a : Int32) (sz : Nat) : Met l yX15_board wsX15_board ({ frames := 2, cells := 0, slots := 0, locals := 43 }) (va_Pc [.ref x, .int a] (pre dC dI E [(x, .inr (21, [.ref s0, .int th])), (s0, .inr (20, [.ref l0, .ref l1, .ref l2, .ref l3, .ref l4, .ref l5, .ref l6, .ref l7, .ref l8, .int 10, .int 100, .int 50, .int 0, .int 0])), (l0, .inr (5, [.int 0, .ref (E 0), .int 0]))] [] sz)) (va_Qi (fun (r : Int32) (_ : Unit) => r = 0) (fun _ t => pst dC dI (va_A [(x, .inr (21, [.ref s0, .int th])), (s0, .inr (20, [.ref l0, .ref l1, .ref l2, .ref l3, .ref l4, .ref l5, .ref l6, .ref l7, .ref l8, .int 10, .int 100, .int 50, .int 0, .int 0])), (l0, .inr (5, [.int 0, .ref (E 0), .int 0]))] sz) [(x, .inr (21, [.ref s0, .int 1]))] [] t) (va_A [(x, .inr (21, [.ref s0, .int th])), (s0, .inr (20, [.ref l0, .ref l1, .ref l2, .ref l3, .ref l4, .ref l5, .ref l6, .ref l7, .ref l8, .int 10, .int 100, .int 50, .int 0, .int 0])), (l0, .inr (5, [.int 0, .ref (E 0), .int 0]))] sz)) 0 0 (va_A [(x, .inr (21, [.ref s0, .int th])), (s0, .inr (20, [.ref l0, .ref l1, .ref l2, .ref l3, .ref l4, .ref l5, .ref l6, .ref l7, .ref l8, .int 10, .int 100, .int 50, .int 0, .int 0])), (l0, .inr (5, [.int 0, .ref (E 0), .int 0]))] sz) := by
  refine Met.ofW (cc := cX15_board) (maxL := 2) (ret := (some .int)) (by decide) rfl ?_
  intro p e s m args below meth c s₁ B hml hv
  obtain ⟨rfl, hsz, hP, hK, hD0, hE, hZ0⟩ := hv
  have hx := B.exec
  have hb := B.bytes
  have hr := B.returns
  have hts := atoms_spec (ws := wsX15_board) B.pre
  have hown : s.vm.findClass RX15 = some m.cls := findClass_of_methodNamed B.named
  have hlocks := B.notSynchronized
  subst hsz
  have hD := hD0.self (sz := s.heap.size)
  generalize hAe : va_A [(x, .inr (21, [.ref s0, .int th])), (s0, .inr (20, [.ref l0, .ref l1, .ref l2, .ref l3, .ref l4, .ref l5, .ref l6, .ref l7, .ref l8, .int 10, .int 100, .int 50, .int 0, .int 0])), (l0, .inr (5, [.int 0, .ref (E 0), .int 0]))] s.heap.size = A at hD hZ0 ⊢
  have hZ := hZ0
  have hA : ∀ q : Nat, s.heap.size ≤ q → A q := fun q h => by rw [← hAe]; exact Or.inr h
  have hS : va_S A s.heap s.heap [] := va_S.rf
  have hP : va_P (dC, dI) vwCl [(x, .inr (21, [.ref s0, .int th])), (s0, .inr (20, [.ref l0, .ref l1, .ref l2, .ref l3, .ref l4, .ref l5, .ref l6, .ref l7, .ref l8, .int 10, .int 100, .int 50, .int 0, .int 0])), (l0, .inr (5, [.int 0, .ref (E 0), .int 0]))] s.heap := hP
  have hl := lv_entry ([.ref x, .int a]) (n := 2) (Nat.le_of_ble_eq_true rfl)
  rw [lg_entry_eq]
  generalize (lg_sl ([.ref x, .int a]) ++ List.replicate (2 - (lg_sl ([.ref x, .int a])).length) Slot.unset).toArray = ls at hl ⊢
  have hl : lv_has ls 2 [(0, .ref x), (1, .int a)] := hl
  refine lv_aload_n hx hb dX15_board_0 rfl (lv_at hl 0 rfl) ?_
  refine lv_aload_n hx hb dX15_board_1 rfl (lv_at hl 0 rfl) ?_
  refine lv_iload_n hx hb dX15_board_2 rfl (lv_at hl 1 rfl) ?_
  have hPc := hP.sub (ws' := [(x, .inr (21, [.ref s0, .int th])), (s0, .inr (20, [.ref l0, .ref l1, .ref l2, .ref l3, .ref l4, .ref l5, .ref l6, .ref l7, .ref l8, .int 10, .int 100, .int 50, .int 0, .int 0])), (l0, .inr (5, [.int 0, .ref (E 0), .int 0]))]) [0, 1, 2] rfl
  have hDc := hD.sub (ws' := [(x, .inr (21, [.ref s0, .int th])), (s0, .inr (20, [.ref l0, .ref l1, .ref l2, .ref l3, .ref l4, .ref l5, .ref l6, .ref l7, .ref l8, .int 10, .int 100, .int 50, .int 0, .int 0])), (l0, .inr (5, [.int 0, .ref (E 0), .int 0]))]) [0, 1, 2] (by decide) rfl
  have hKc := hK.sub (tys' := []) [] rfl
  have hFc := va_free (wc := [(x, .inr (21, [.ref s0, .int th])), (s0, .inr (20, [.ref l0, .ref l1, .ref l2, .ref l3, .ref l4, .ref l5, .ref l6, .ref l7, .ref l8, .int 10, .int 100, .int 50, .int 0, .int 0])), (l0, .inr (5, [.int 0, .ref (E 0), .int 0]))]) hD hS hA [0, 1, 2] rfl
  refine va_calli (va_runV (As := [.int a]) (rest := [.ref x]) ⟨hx, hb, hml, hown, hts⟩ (c_rm_isRoom l dC dI E x s0 l0 l1 l2 l3 l4 l5 l6 l7 l8 th a s.heap.size) (cwV 1 hts gX15_board_X15_isRoom rfl rfl rfl (by decide +kernel) ⟨(Nat.le_of_ble_eq_true rfl), (Nat.le_of_ble_eq_true rfl)⟩) ⟨pre_blind, va_recv hKc hPc (ci := 21) (q0 := 0) rfl rfl, pre_call hPc hDc hKc hFc hE hZ hS⟩ rfl rfl hl.1 rfl (lv_room (Nat.le_of_ble_eq_true rfl)) dX15_board_3 ⟨(Nat.le_of_ble_eq_true rfl), (Nat.le_of_ble_eq_true rfl)⟩) hS (fun q _ h => hFc q h) hFc (fun r u t H1 locs1 ht hvm hw hB hz1 hk1 hS => ?_)
  have hw9 : r = 0 := hw
  rw [hw9]
  obtain ⟨hP, hD, hK⟩ := pst_join (wc := [(x, .inr (21, [.ref s0, .int th])), (s0, .inr (20, [.ref l0, .ref l1, .ref l2, .ref l3, .ref l4, .ref l5, .ref l6, .ref l7, .ref l8, .int 10, .int 100, .int 50, .int 0, .int 0])), (l0, .inr (5, [.int 0, .ref (E 0), .int 0]))]) (wr := []) (w1 := [(x, .inr (21, [.ref s0, .int th])), (s0, .inr (20, [.ref l0, .ref l1, .ref l2, .ref l3, .ref l4, .ref l5, .ref l6, .ref l7, .ref l8, .int 10, .int 100, .int 50, .int 0, .int 0])), (l0, .inr (5, [.int 0, .ref (E 0), .int 0]))]) (tr := []) (t1 := []) hP hD hK [0, 1, 2] [] [] rfl rfl rfl (by decide) (by decide) hk1 hFc ht hvm hB
  generalize H1 = H at hP hS ⊢
  have hP : va_P (dC, dI) vwCl [(x, .inr (21, [.ref s0, .int th])), (s0, .inr (20, [.ref l0, .ref l1, .ref l2, .ref l3, .ref l4, .ref l5, .ref l6, .ref l7, .ref l8, .int 10, .int 100, .int 50, .int 0, .int 0])), (l0, .inr (5, [.int 0, .ref (E 0), .int 0]))] H := hP
  have hD : va_D A [(x, .inr (21, [.ref s0, .int th])), (s0, .inr (20, [.ref l0, .ref l1, .ref l2, .ref l3, .ref l4, .ref l5, .ref l6, .ref l7, .ref l8, .int 10, .int 100, .int 50, .int 0, .int 0])), (l0, .inr (5, [.int 0, .ref (E 0), .int 0]))] := hD
  have hK : va_K (dC, dI) vwCl [] s := hK
  refine W.widen (k := 0) (n := 0) (Nat.le_of_ble_eq_true rfl) (Nat.le_of_ble_eq_true rfl) ?_
  refine lv_iconst (v := 1) hx hb dX15_board_6 (by decide) ?_
  have hPc := hP.sub (ws' := [(x, .inr (21, [.ref s0, .int th]))]) [0] rfl
  have hDc := hD.sub (ws' := [(x, .inr (21, [.ref s0, .int th]))]) [0] (by decide) rfl
  have hKc := hK.sub (tys' := []) [] rfl
  have hFc := va_free (wc := [(x, .inr (21, [.ref s0, .int th]))]) hD hS hA [0] rfl
  refine va_calli (va_runV (As := [.int 0, .int 1]) (rest := []) ⟨hx, hb, hml, hown, hts⟩ (c_rm_no_0 l dC dI E x s0 th 1 H.size) (cwV 2 hts gX15_board_X15_no rfl rfl rfl (by decide +kernel) ⟨(Nat.le_of_ble_eq_true rfl), (Nat.le_of_ble_eq_true rfl)⟩) ⟨pre_blind, va_recv hKc hPc (ci := 21) (q0 := 0) rfl rfl, pre_call hPc hDc hKc hFc hE hZ hS⟩ rfl rfl hl.1 rfl (lv_room (Nat.le_of_ble_eq_true rfl)) dX15_board_7 ⟨(Nat.le_of_ble_eq_true rfl), (Nat.le_of_ble_eq_true rfl)⟩) hS (fun q _ h => hFc q h) hFc (fun r u t H1 locs1 ht hvm hw hB hz1 hk1 hS => ?_)
  have hw9 : r = 1 := hw
  rw [hw9]
  obtain ⟨hP, hD, hK⟩ := pst_join (wc := [(x, .inr (21, [.ref s0, .int th]))]) (wr := [(s0, .inr (20, [.ref l0, .ref l1, .ref l2, .ref l3, .ref l4, .ref l5, .ref l6, .ref l7, .ref l8, .int 10, .int 100, .int 50, .int 0, .int 0])), (l0, .inr (5, [.int 0, .ref (E 0), .int 0]))]) (w1 := [(x, .inr (21, [.ref s0, .int 1]))]) (tr := []) (t1 := []) hP hD hK [0] [1, 2] [] rfl rfl rfl (by decide) (by decide) hk1 hFc ht hvm hB
  generalize H1 = H at hP hS ⊢
  have hP : va_P (dC, dI) vwCl [(s0, .inr (20, [.ref l0, .ref l1, .ref l2, .ref l3, .ref l4, .ref l5, .ref l6, .ref l7, .ref l8, .int 10, .int 100, .int 50, .int 0, .int 0])), (l0, .inr (5, [.int 0, .ref (E 0), .int 0])), (x, .inr (21, [.ref s0, .int 1]))] H := hP
  have hD : va_D A [(s0, .inr (20, [.ref l0, .ref l1, .ref l2, .ref l3, .ref l4, .ref l5, .ref l6, .ref l7, .ref l8, .int 10, .int 100, .int 50, .int 0, .int 0])), (l0, .inr (5, [.int 0, .ref (E 0), .int 0])), (x, .inr (21, [.ref s0, .int 1]))] := hD
  have hK : va_K (dC, dI) vwCl [] s := hK
  refine W.widen (k := 0) (n := 0) (Nat.le_of_ble_eq_true rfl) (Nat.le_of_ble_eq_true rfl) ?_
  refine lv_if_ne (tgt := 43) hx hb dX15_board_10 (by decide) (fun _ => ?_) (fun c9 => absurd c9 (by decide))
  refine lv_iconst (v := 0) hx hb dX15_board_43 (by decide) ?_
  have hP9 := hP.sub (ws' := [(x, .inr (21, [.ref s0, .int 1]))]) [2] rfl
  have hD9 := hD.sub (ws' := [(x, .inr (21, [.ref s0, .int 1]))]) [2] (by decide) rfl
  have hK9 := hK.sub (tys' := []) [] rfl
  refine W.widen (k := 0) (n := 0) (Nat.le_of_ble_eq_true rfl) (Nat.le_of_ble_eq_true rfl) ?_
  exact W.iret (v := 0) hx hb hr (fun t ht hW => ⟨⟨0, (), rfl, rfl, pst_of hP9 hD9 hK9 ht hW⟩, hS.F ht⟩) hS.2.2 dX15_board_44

set_option maxHeartbeats 4000000 in
set_option maxRecDepth 100000 in
theorem c_rm_move (l : Launch) (dC : Nat → ClassId) (dI : Nat → Nat → Nat) (E : Nat → Nat) (x : Nat) (s0 : Nat) (l0 : Nat) (l1 : Nat) (l2 : Nat) (l3 : Nat) (l4 : Nat) (l5 : Nat) (l6 : Nat) (l7 : Nat) (l8 : Nat) (th : Int32) (a : Int32) (b : Int32) (sz : Nat) : Met l yX15_move wsX15_move ({ frames := 1, cells := 0, slots := 0, locals := 22 }) (va_Pc [.ref x, .int a, .int b] (pre dC dI E [(x, .inr (21, [.ref s0, .int th])), (s0, .inr (20, [.ref l0, .ref l1, .ref l2, .ref l3, .ref l4, .ref l5, .ref l6, .ref l7, .ref l8, .int 10, .int 100, .int 50, .int 0, .int 0])), (l5, .inr (5, [.int 0, .ref (E 0), .int 0]))] [] sz)) (va_Qi (fun (r : Int32) (_ : Unit) => r = 0) (fun _ t => pst dC dI (va_A [(x, .inr (21, [.ref s0, .int th])), (s0, .inr (20, [.ref l0, .ref l1, .ref l2, .ref l3, .ref l4, .ref l5, .ref l6, .ref l7, .ref l8, .int 10, .int 100, .int 50, .int 0, .int 0])), (l5, .inr (5, [.int 0, .ref (E 0), .int 0]))] sz) [(x, .inr (21, [.ref s0, .int 1]))] [] t) (va_A [(x, .inr (21, [.ref s0, .int th])), (s0, .inr (20, [.ref l0, .ref l1, .ref l2, .ref l3, .ref l4, .ref l5, .ref l6, .ref l7, .ref l8, .int 10, .int 100, .int 50, .int 0, .int 0])), (l5, .inr (5, [.int 0, .ref (E 0), .int 0]))] sz)) 0 0 (va_A [(x, .inr (21, [.ref s0, .int th])), (s0, .inr (20, [.ref l0, .ref l1, .ref l2, .ref l3, .ref l4, .ref l5, .ref l6, .ref l7, .ref l8, .int 10, .int 100, .int 50, .int 0, .int 0])), (l5, .inr (5, [.int 0, .ref (E 0), .int 0]))] sz) := by
  refine Met.ofW (cc := cX15_move) (maxL := 7) (ret := (some .int)) (by decide) rfl ?_
  intro p e s m args below meth c s₁ B hml hv
  obtain ⟨rfl, hsz, hP, hK, hD0, hE, hZ0⟩ := hv
  have hx := B.exec
  have hb := B.bytes
  have hr := B.returns
  have hts := atoms_spec (ws := wsX15_move) B.pre
  have hown : s.vm.findClass RX15 = some m.cls := findClass_of_methodNamed B.named
  have hlocks := B.notSynchronized
  subst hsz
  have hD := hD0.self (sz := s.heap.size)
  generalize hAe : va_A [(x, .inr (21, [.ref s0, .int th])), (s0, .inr (20, [.ref l0, .ref l1, .ref l2, .ref l3, .ref l4, .ref l5, .ref l6, .ref l7, .ref l8, .int 10, .int 100, .int 50, .int 0, .int 0])), (l5, .inr (5, [.int 0, .ref (E 0), .int 0]))] s.heap.size = A at hD hZ0 ⊢
  have hZ := hZ0
  have hA : ∀ q : Nat, s.heap.size ≤ q → A q := fun q h => by rw [← hAe]; exact Or.inr h
  have hS : va_S A s.heap s.heap [] := va_S.rf
  have hP : va_P (dC, dI) vwCl [(x, .inr (21, [.ref s0, .int th])), (s0, .inr (20, [.ref l0, .ref l1, .ref l2, .ref l3, .ref l4, .ref l5, .ref l6, .ref l7, .ref l8, .int 10, .int 100, .int 50, .int 0, .int 0])), (l5, .inr (5, [.int 0, .ref (E 0), .int 0]))] s.heap := hP
  have hl := lv_entry ([.ref x, .int a, .int b]) (n := 7) (Nat.le_of_ble_eq_true rfl)
  rw [lg_entry_eq]
  generalize (lg_sl ([.ref x, .int a, .int b]) ++ List.replicate (7 - (lg_sl ([.ref x, .int a, .int b])).length) Slot.unset).toArray = ls at hl ⊢
  have hl : lv_has ls 7 [(0, .ref x), (1, .int a), (2, .int b)] := hl
  refine lv_aload_n hx hb dX15_move_0 rfl (lv_at hl 0 rfl) ?_
  refine lv_iload_n hx hb dX15_move_1 rfl (lv_at hl 1 rfl) ?_
  refine lv_iconst (v := 0) hx hb dX15_move_2 (by decide) ?_
  refine lv_aload_n hx hb dX15_move_3 rfl (lv_at hl 0 rfl) ?_
  refine va_get (D := (dC, dI)) (ci := 21) (v := .ref s0) (C := RX15) (T := TX15) (N := 2) hx hb hts (by decide +kernel) hown hK hP 0 rfl rfl 0 (by decide) (hts (.fieldLink RX15 10 "OrbitdockModel" "station" "LOrbitdockModel$Station;") (by decide +kernel)) (fun _ h9 => h9) rfl dX15_move_4 ?_
  refine va_get (D := (dC, dI)) (ci := 20) (v := .ref l5) (C := RX14) (T := TX14) (N := 14) hx hb hts (by decide +kernel) hown hK hP 1 rfl rfl 5 (by decide) (hts (.fieldLink RX15 40 "OrbitdockModel$Station" "people" "Ljava/util/List;") (by decide +kernel)) (fun _ h9 => h9) rfl dX15_move_7 ?_
  have hPc := hP.sub (ws' := [(l5, .inr (5, [.int 0, .ref (E 0), .int 0]))]) [2] rfl
  have hDc := hD.sub (ws' := [(l5, .inr (5, [.int 0, .ref (E 0), .int 0]))]) [2] (by decide) rfl
  have hKc := hK.sub (tys' := []) [] rfl
  have hFc := va_free (wc := [(l5, .inr (5, [.int 0, .ref (E 0), .int 0]))]) hD hS hA [2] rfl
  refine va_callFi (va_runF (As := []) (rest := [.int 0, .int a, .ref x]) (hK.1 5 _ rfl).2 ⟨hx, hb, hml, hown, hts⟩ (c_al_size l dC dI E l5 (E 0) 0 0 s.heap.size) (va_cwF 0 hts gX15_move_Jx4a65c_size_8abf5_f24Jx4a65c rfl rfl rfl hE.1.1 (by decide +kernel) ⟨(Nat.le_of_ble_eq_true rfl), (Nat.le_of_ble_eq_true rfl)⟩) ⟨pre_blind, va_recv hKc hPc (ci := 5) (q0 := 0) rfl rfl, pre_call hPc hDc hKc hFc hE hZ hS⟩ rfl rfl hl.1 rfl (lv_room (Nat.le_of_ble_eq_true rfl)) dX15_move_10 ⟨(Nat.le_of_ble_eq_true rfl), (Nat.le_of_ble_eq_true rfl)⟩) hS (fun q _ h => hFc q h) hFc (fun r u t H1 locs1 ht hvm hw hB hz1 hk1 hS => ?_)
  have hw9 : r = 0 := hw
  rw [hw9]
  obtain ⟨hP, hD, hK⟩ := pst_join (wc := [(l5, .inr (5, [.int 0, .ref (E 0), .int 0]))]) (wr := [(x, .inr (21, [.ref s0, .int th])), (s0, .inr (20, [.ref l0, .ref l1, .ref l2, .ref l3, .ref l4, .ref l5, .ref l6, .ref l7, .ref l8, .int 10, .int 100, .int 50, .int 0, .int 0]))]) (w1 := [(l5, .inr (5, [.int 0, .ref (E 0), .int 0]))]) (tr := []) (t1 := []) hP hD hK [2] [0, 1] [] rfl rfl rfl (by decide) (by decide) hk1 hFc ht hvm hB
  generalize H1 = H at hP hS ⊢
  have hP : va_P (dC, dI) vwCl [(x, .inr (21, [.ref s0, .int th])), (s0, .inr (20, [.ref l0, .ref l1, .ref l2, .ref l3, .ref l4, .ref l5, .ref l6, .ref l7, .ref l8, .int 10, .int 100, .int 50, .int 0, .int 0])), (l5, .inr (5, [.int 0, .ref (E 0), .int 0]))] H := hP
  have hD : va_D A [(x, .inr (21, [.ref s0, .int th])), (s0, .inr (20, [.ref l0, .ref l1, .ref l2, .ref l3, .ref l4, .ref l5, .ref l6, .ref l7, .ref l8, .int 10, .int 100, .int 50, .int 0, .int 0])), (l5, .inr (5, [.int 0, .ref (E 0), .int 0]))] := hD
  have hK : va_K (dC, dI) vwCl [] s := hK
  refine W.widen (k := 0) (n := 0) (Nat.le_of_ble_eq_true rfl) (Nat.le_of_ble_eq_true rfl) ?_
  refine lv_iconst (v := 1) hx hb dX15_move_15 (by decide) ?_
  refine lv_isub hx hb dX15_move_16 ?_
  refine lv_topi (fun z_2 ez_2 => ?_)
  obtain rfl : z_2 = (-1) := ez_2.trans (by decide)
  have hPc := hP.sub (ws' := []) [] rfl
  have hDc := hD.sub (ws' := []) [] (by decide) rfl
  have hKc := hK.sub (tys' := []) [] rfl
  have hFc := va_free (wc := []) hD hS hA [] rfl
  refine va_calli (va_runS (As := [.int a, .int 0, .int (-1)]) (rest := [.ref x]) ⟨hx, hb, hml, hown, hts⟩ (c_rm_isIn_e l dC dI E a H.size) (va_cwS 3 hts gX15_move_X15_isIn rfl rfl rfl (by decide +kernel) ⟨(Nat.le_of_ble_eq_true rfl), (Nat.le_of_ble_eq_true rfl)⟩) ⟨pre_blind, pre_call hPc hDc hKc hFc hE hZ hS⟩ rfl rfl hl.1 rfl (lv_room (Nat.le_of_ble_eq_true rfl)) dX15_move_17 ⟨(Nat.le_of_ble_eq_true rfl), (Nat.le_of_ble_eq_true rfl)⟩) hS (fun q _ h => hFc q h) hFc (fun r u t H1 locs1 ht hvm hw hB hz1 hk1 hS => ?_)
  have hw9 : r = 0 := hw
  rw [hw9]
  obtain ⟨hP, hD, hK⟩ := pst_join (wc := []) (wr := [(x, .inr (21, [.ref s0, .int th])), (s0, .inr (20, [.ref l0, .ref l1, .ref l2, .ref l3, .ref l4, .ref l5, .ref l6, .ref l7, .ref l8, .int 10, .int 100, .int 50, .int 0, .int 0])), (l5, .inr (5, [.int 0, .ref (E 0), .int 0]))]) (w1 := []) (tr := []) (t1 := []) hP hD hK [] [0, 1, 2] [] rfl rfl rfl (by decide) (by decide) hk1 hFc ht hvm hB
  generalize H1 = H at hP hS ⊢
  have hP : va_P (dC, dI) vwCl [(x, .inr (21, [.ref s0, .int th])), (s0, .inr (20, [.ref l0, .ref l1, .ref l2, .ref l3, .ref l4, .ref l5, .ref l6, .ref l7, .ref l8, .int 10, .int 100, .int 50, .int 0, .int 0])), (l5, .inr (5, [.int 0, .ref (E 0), .int 0]))] H := hP
  have hD : va_D A [(x, .inr (21, [.ref s0, .int th])), (s0, .inr (20, [.ref l0, .ref l1, .ref l2, .ref l3, .ref l4, .ref l5, .ref l6, .ref l7, .ref l8, .int 10, .int 100, .int 50, .int 0, .int 0])), (l5, .inr (5, [.int 0, .ref (E 0), .int 0]))] := hD
  have hK : va_K (dC, dI) vwCl [] s := hK
  refine W.widen (k := 0) (n := 0) (Nat.le_of_ble_eq_true rfl) (Nat.le_of_ble_eq_true rfl) ?_
  refine lv_if_eq (tgt := 35) hx hb dX15_move_20 (by decide) (fun _ => ?_) (fun c9 => absurd (by decide) c9)
  refine lv_iconst (v := 0) hx hb dX15_move_35 (by decide) ?_
  refine lv_iconst (v := 1) hx hb dX15_move_36 (by decide) ?_
  have hPc := hP.sub (ws' := [(x, .inr (21, [.ref s0, .int th]))]) [0] rfl
  have hDc := hD.sub (ws' := [(x, .inr (21, [.ref s0, .int th]))]) [0] (by decide) rfl
  have hKc := hK.sub (tys' := []) [] rfl
  have hFc := va_free (wc := [(x, .inr (21, [.ref s0, .int th]))]) hD hS hA [0] rfl
  refine va_calli (va_runV (As := [.int 0, .int 1]) (rest := []) ⟨hx, hb, hml, hown, hts⟩ (c_rm_no_0 l dC dI E x s0 th 1 H.size) (cwV 2 hts gX15_move_X15_no rfl rfl rfl (by decide +kernel) ⟨(Nat.le_of_ble_eq_true rfl), (Nat.le_of_ble_eq_true rfl)⟩) ⟨pre_blind, va_recv hKc hPc (ci := 21) (q0 := 0) rfl rfl, pre_call hPc hDc hKc hFc hE hZ hS⟩ rfl rfl hl.1 rfl (lv_room (Nat.le_of_ble_eq_true rfl)) dX15_move_37 ⟨(Nat.le_of_ble_eq_true rfl), (Nat.le_of_ble_eq_true rfl)⟩) hS (fun q _ h => hFc q h) hFc (fun r u t H1 locs1 ht hvm hw hB hz1 hk1 hS => ?_)
  have hw9 : r = 1 := hw
  rw [hw9]
  obtain ⟨hP, hD, hK⟩ := pst_join (wc := [(x, .inr (21, [.ref s0, .int th]))]) (wr := [(s0, .inr (20, [.ref l0, .ref l1, .ref l2, .ref l3, .ref l4, .ref l5, .ref l6, .ref l7, .ref l8, .int 10, .int 100, .int 50, .int 0, .int 0])), (l5, .inr (5, [.int 0, .ref (E 0), .int 0]))]) (w1 := [(x, .inr (21, [.ref s0, .int 1]))]) (tr := []) (t1 := []) hP hD hK [0] [1, 2] [] rfl rfl rfl (by decide) (by decide) hk1 hFc ht hvm hB
  generalize H1 = H at hP hS ⊢
  have hP : va_P (dC, dI) vwCl [(s0, .inr (20, [.ref l0, .ref l1, .ref l2, .ref l3, .ref l4, .ref l5, .ref l6, .ref l7, .ref l8, .int 10, .int 100, .int 50, .int 0, .int 0])), (l5, .inr (5, [.int 0, .ref (E 0), .int 0])), (x, .inr (21, [.ref s0, .int 1]))] H := hP
  have hD : va_D A [(s0, .inr (20, [.ref l0, .ref l1, .ref l2, .ref l3, .ref l4, .ref l5, .ref l6, .ref l7, .ref l8, .int 10, .int 100, .int 50, .int 0, .int 0])), (l5, .inr (5, [.int 0, .ref (E 0), .int 0])), (x, .inr (21, [.ref s0, .int 1]))] := hD
  have hK : va_K (dC, dI) vwCl [] s := hK
  refine W.widen (k := 0) (n := 0) (Nat.le_of_ble_eq_true rfl) (Nat.le_of_ble_eq_true rfl) ?_
  refine lv_if_eq (tgt := 45) hx hb dX15_move_40 (by decide) (fun c9 => absurd c9 (by decide)) (fun _ => ?_)
  refine lv_iconst (v := 0) hx hb dX15_move_43 (by decide) ?_
  have hP9 := hP.sub (ws' := [(x, .inr (21, [.ref s0, .int 1]))]) [2] rfl
  have hD9 := hD.sub (ws' := [(x, .inr (21, [.ref s0, .int 1]))]) [2] (by decide) rfl
  have hK9 := hK.sub (tys' := []) [] rfl
  refine W.widen (k := 0) (n := 0) (Nat.le_of_ble_eq_true rfl) (Nat.le_of_ble_eq_true rfl) ?_
  exact W.iret (v := 0) hx hb hr (fun t ht hW => ⟨⟨0, (), rfl, rfl, pst_of hP9 hD9 hK9 ht hW⟩, hS.F ht⟩) hS.2.2 dX15_move_44

set_option maxHeartbeats 4000000 in
set_option maxRecDepth 100000 in
theorem c_rm_setTask (l : Launch) (dC : Nat → ClassId) (dI : Nat → Nat → Nat) (E : Nat → Nat) (x : Nat) (s0 : Nat) (l0 : Nat) (l1 : Nat) (l2 : Nat) (l3 : Nat) (l4 : Nat) (l5 : Nat) (l6 : Nat) (l7 : Nat) (l8 : Nat) (th : Int32) (a : Int32) (b : Int32) (sz : Nat) : Met l yX15_setTask wsX15_setTask ({ frames := 2, cells := 0, slots := 0, locals := 43 }) (va_Pc [.ref x, .int a, .int b] (pre dC dI E [(x, .inr (21, [.ref s0, .int th])), (s0, .inr (20, [.ref l0, .ref l1, .ref l2, .ref l3, .ref l4, .ref l5, .ref l6, .ref l7, .ref l8, .int 10, .int 100, .int 50, .int 0, .int 0])), (l5, .inr (5, [.int 0, .ref (E 0), .int 0]))] [] sz)) (va_Qi (fun (r : Int32) (_ : Unit) => r = 114) (fun _ t => pst dC dI (va_A [(x, .inr (21, [.ref s0, .int th])), (s0, .inr (20, [.ref l0, .ref l1, .ref l2, .ref l3, .ref l4, .ref l5, .ref l6, .ref l7, .ref l8, .int 10, .int 100, .int 50, .int 0, .int 0])), (l5, .inr (5, [.int 0, .ref (E 0), .int 0]))] sz) [(x, .inr (21, [.ref s0, .int 1]))] [] t) (va_A [(x, .inr (21, [.ref s0, .int th])), (s0, .inr (20, [.ref l0, .ref l1, .ref l2, .ref l3, .ref l4, .ref l5, .ref l6, .ref l7, .ref l8, .int 10, .int 100, .int 50, .int 0, .int 0])), (l5, .inr (5, [.int 0, .ref (E 0), .int 0]))] sz)) 0 0 (va_A [(x, .inr (21, [.ref s0, .int th])), (s0, .inr (20, [.ref l0, .ref l1, .ref l2, .ref l3, .ref l4, .ref l5, .ref l6, .ref l7, .ref l8, .int 10, .int 100, .int 50, .int 0, .int 0])), (l5, .inr (5, [.int 0, .ref (E 0), .int 0]))] sz) := by
  refine Met.ofW (cc := cX15_setTask) (maxL := 5) (ret := (some .char)) (by decide) rfl ?_
  intro p e s m args below meth c s₁ B hml hv
  obtain ⟨rfl, hsz, hP, hK, hD0, hE, hZ0⟩ := hv
  have hx := B.exec
  have hb := B.bytes
  have hr := B.returns
  have hts := atoms_spec (ws := wsX15_setTask) B.pre
  have hown : s.vm.findClass RX15 = some m.cls := findClass_of_methodNamed B.named
  have hlocks := B.notSynchronized
  subst hsz
  have hD := hD0.self (sz := s.heap.size)
  generalize hAe : va_A [(x, .inr (21, [.ref s0, .int th])), (s0, .inr (20, [.ref l0, .ref l1, .ref l2, .ref l3, .ref l4, .ref l5, .ref l6, .ref l7, .ref l8, .int 10, .int 100, .int 50, .int 0, .int 0])), (l5, .inr (5, [.int 0, .ref (E 0), .int 0]))] s.heap.size = A at hD hZ0 ⊢
  have hZ := hZ0
  have hA : ∀ q : Nat, s.heap.size ≤ q → A q := fun q h => by rw [← hAe]; exact Or.inr h
  have hS : va_S A s.heap s.heap [] := va_S.rf
  have hP : va_P (dC, dI) vwCl [(x, .inr (21, [.ref s0, .int th])), (s0, .inr (20, [.ref l0, .ref l1, .ref l2, .ref l3, .ref l4, .ref l5, .ref l6, .ref l7, .ref l8, .int 10, .int 100, .int 50, .int 0, .int 0])), (l5, .inr (5, [.int 0, .ref (E 0), .int 0]))] s.heap := hP
  have hl := lv_entry ([.ref x, .int a, .int b]) (n := 5) (Nat.le_of_ble_eq_true rfl)
  rw [lg_entry_eq]
  generalize (lg_sl ([.ref x, .int a, .int b]) ++ List.replicate (5 - (lg_sl ([.ref x, .int a, .int b])).length) Slot.unset).toArray = ls at hl ⊢
  have hl : lv_has ls 5 [(0, .ref x), (1, .int a), (2, .int b)] := hl
  refine lv_aload_n hx hb dX15_setTask_0 rfl (lv_at hl 0 rfl) ?_
  refine lv_iload_n hx hb dX15_setTask_1 rfl (lv_at hl 1 rfl) ?_
  have hPc := hP.sub (ws' := [(x, .inr (21, [.ref s0, .int th])), (s0, .inr (20, [.ref l0, .ref l1, .ref l2, .ref l3, .ref l4, .ref l5, .ref l6, .ref l7, .ref l8, .int 10, .int 100, .int 50, .int 0, .int 0])), (l5, .inr (5, [.int 0, .ref (E 0), .int 0]))]) [0, 1, 2] rfl
  have hDc := hD.sub (ws' := [(x, .inr (21, [.ref s0, .int th])), (s0, .inr (20, [.ref l0, .ref l1, .ref l2, .ref l3, .ref l4, .ref l5, .ref l6, .ref l7, .ref l8, .int 10, .int 100, .int 50, .int 0, .int 0])), (l5, .inr (5, [.int 0, .ref (E 0), .int 0]))]) [0, 1, 2] (by decide) rfl
  have hKc := hK.sub (tys' := []) [] rfl
  have hFc := va_free (wc := [(x, .inr (21, [.ref s0, .int th])), (s0, .inr (20, [.ref l0, .ref l1, .ref l2, .ref l3, .ref l4, .ref l5, .ref l6, .ref l7, .ref l8, .int 10, .int 100, .int 50, .int 0, .int 0])), (l5, .inr (5, [.int 0, .ref (E 0), .int 0]))]) hD hS hA [0, 1, 2] rfl
  refine va_calli (va_runV (As := [.int a]) (rest := []) ⟨hx, hb, hml, hown, hts⟩ (c_rm_noPerson l dC dI E x s0 l0 l1 l2 l3 l4 l5 l6 l7 l8 th a s.heap.size) (cwV 1 hts gX15_setTask_X15_noPerson rfl rfl rfl (by decide +kernel) ⟨(Nat.le_of_ble_eq_true rfl), (Nat.le_of_ble_eq_true rfl)⟩) ⟨pre_blind, va_recv hKc hPc (ci := 21) (q0 := 0) rfl rfl, pre_call hPc hDc hKc hFc hE hZ hS⟩ rfl rfl hl.1 rfl (lv_room (Nat.le_of_ble_eq_true rfl)) dX15_setTask_2 ⟨(Nat.le_of_ble_eq_true rfl), (Nat.le_of_ble_eq_true rfl)⟩) hS (fun q _ h => hFc q h) hFc (fun r u t H1 locs1 ht hvm hw hB hz1 hk1 hS => ?_)
  have hw9 : r = 1 := hw
  rw [hw9]
  obtain ⟨hP, hD, hK⟩ := pst_join (wc := [(x, .inr (21, [.ref s0, .int th])), (s0, .inr (20, [.ref l0, .ref l1, .ref l2, .ref l3, .ref l4, .ref l5, .ref l6, .ref l7, .ref l8, .int 10, .int 100, .int 50, .int 0, .int 0])), (l5, .inr (5, [.int 0, .ref (E 0), .int 0]))]) (wr := []) (w1 := [(x, .inr (21, [.ref s0, .int 1])), (s0, .inr (20, [.ref l0, .ref l1, .ref l2, .ref l3, .ref l4, .ref l5, .ref l6, .ref l7, .ref l8, .int 10, .int 100, .int 50, .int 0, .int 0])), (l5, .inr (5, [.int 0, .ref (E 0), .int 0]))]) (tr := []) (t1 := []) hP hD hK [0, 1, 2] [] [] rfl rfl rfl (by decide) (by decide) hk1 hFc ht hvm hB
  generalize H1 = H at hP hS ⊢
  have hP : va_P (dC, dI) vwCl [(x, .inr (21, [.ref s0, .int 1])), (s0, .inr (20, [.ref l0, .ref l1, .ref l2, .ref l3, .ref l4, .ref l5, .ref l6, .ref l7, .ref l8, .int 10, .int 100, .int 50, .int 0, .int 0])), (l5, .inr (5, [.int 0, .ref (E 0), .int 0]))] H := hP
  have hD : va_D A [(x, .inr (21, [.ref s0, .int 1])), (s0, .inr (20, [.ref l0, .ref l1, .ref l2, .ref l3, .ref l4, .ref l5, .ref l6, .ref l7, .ref l8, .int 10, .int 100, .int 50, .int 0, .int 0])), (l5, .inr (5, [.int 0, .ref (E 0), .int 0]))] := hD
  have hK : va_K (dC, dI) vwCl [] s := hK
  refine W.widen (k := 0) (n := 0) (Nat.le_of_ble_eq_true rfl) (Nat.le_of_ble_eq_true rfl) ?_
  refine lv_if_ne (tgt := 39) hx hb dX15_setTask_5 (by decide) (fun _ => ?_) (fun c9 => absurd c9 (by decide))
  refine lv_bipush (v := 114) hx hb dX15_setTask_39 (by decide) ?_
  have hP9 := hP.sub (ws' := [(x, .inr (21, [.ref s0, .int 1]))]) [0] rfl
  have hD9 := hD.sub (ws' := [(x, .inr (21, [.ref s0, .int 1]))]) [0] (by decide) rfl
  have hK9 := hK.sub (tys' := []) [] rfl
  refine W.widen (k := 0) (n := 0) (Nat.le_of_ble_eq_true rfl) (Nat.le_of_ble_eq_true rfl) ?_
  exact W.zret (v := 114) hx hb hr rfl (fun t ht hW => ⟨⟨114, (), rfl, rfl, pst_of hP9 hD9 hK9 ht hW⟩, hS.F ht⟩) hS.2.2 dX15_setTask_41

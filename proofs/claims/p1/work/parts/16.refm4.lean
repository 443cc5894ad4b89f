set_option maxHeartbeats 4000000 in
set_option maxRecDepth 100000 in
theorem c_rm_send_n2 (l : Launch) (dC : Nat → ClassId) (dI : Nat → Nat → Nat) (E : Nat → Nat) (x : Nat) (s0 : Nat) (l0 : Nat) (l1 : Nat) (l2 : Nat) (l3 : Nat) (l4 : Nat) (l5 : Nat) (l6 : Nat) (l7 : Nat) (l8 : Nat) (th : Int32) (k : Int32) (a : Int32) (b : Int32) (c4 : Int32) (sz : Nat) (hk : k = 110 ∨ k = 102 ∨ k = 111 ∨ k = 104) (h : ¬ (¬ b < 1 ∧ ¬ 99 < b)) : Met l yX15_send wsX15_send ({ frames := 1, cells := 0, slots := 0, locals := 22 }) (va_Pc [.ref x, .int k, .int a, .int b, .int c4] (pre dC dI E [(x, .inr (21, [.ref s0, .int th])), (s0, .inr (20, [.ref l0, .ref l1, .ref l2, .ref l3, .ref l4, .ref l5, .ref l6, .ref l7, .ref l8, .int 10, .int 100, .int 50, .int 0, .int 0]))] [] sz)) (va_Qi (fun (r : Int32) (_ : Unit) => r = 0) (fun _ t => pst dC dI (va_A [(x, .inr (21, [.ref s0, .int th])), (s0, .inr (20, [.ref l0, .ref l1, .ref l2, .ref l3, .ref l4, .ref l5, .ref l6, .ref l7, .ref l8, .int 10, .int 100, .int 50, .int 0, .int 0]))] sz) [(x, .inr (21, [.ref s0, .int 1]))] [] t) (va_A [(x, .inr (21, [.ref s0, .int th])), (s0, .inr (20, [.ref l0, .ref l1, .ref l2, .ref l3, .ref l4, .ref l5, .ref l6, .ref l7, .ref l8, .int 10, .int 100, .int 50, .int 0, .int 0]))] sz)) 0 0 (va_A [(x, .inr (21, [.ref s0, .int th])), (s0, .inr (20, [.ref l0, .ref l1, .ref l2, .ref l3, .ref l4, .ref l5, .ref l6, .ref l7, .ref l8, .int 10, .int 100, .int 50, .int 0, .int 0]))] sz) := by
  refine Met.ofW (cc := cX15_send) (maxL := 6) (ret := (some .int)) (by decide) rfl ?_
  intro p e s m args below meth c s₁ B hml hv
  obtain ⟨rfl, hsz, hP, hK, hD0, hE, hZ0⟩ := hv
  have hx := B.exec
  have hb := B.bytes
  have hr := B.returns
  have hts := atoms_spec (ws := wsX15_send) B.pre
  have hown : s.vm.findClass RX15 = some m.cls := findClass_of_methodNamed B.named
  have hlocks := B.notSynchronized
  subst hsz
  have hD := hD0.self (sz := s.heap.size)
  generalize hAe : va_A [(x, .inr (21, [.ref s0, .int th])), (s0, .inr (20, [.ref l0, .ref l1, .ref l2, .ref l3, .ref l4, .ref l5, .ref l6, .ref l7, .ref l8, .int 10, .int 100, .int 50, .int 0, .int 0]))] s.heap.size = A at hD hZ0 ⊢
  have hZ := hZ0
  have hA : ∀ q : Nat, s.heap.size ≤ q → A q := fun q h => by rw [← hAe]; exact Or.inr h
  have hS : va_S A s.heap s.heap [] := va_S.rf
  have hP : va_P (dC, dI) vwCl [(x, .inr (21, [.ref s0, .int th])), (s0, .inr (20, [.ref l0, .ref l1, .ref l2, .ref l3, .ref l4, .ref l5, .ref l6, .ref l7, .ref l8, .int 10, .int 100, .int 50, .int 0, .int 0]))] s.heap := hP
  have hl := lv_entry ([.ref x, .int k, .int a, .int b, .int c4]) (n := 6) (Nat.le_of_ble_eq_true rfl)
  rw [lg_entry_eq]
  generalize (lg_sl ([.ref x, .int k, .int a, .int b, .int c4]) ++ List.replicate (6 - (lg_sl ([.ref x, .int k, .int a, .int b, .int c4])).length) Slot.unset).toArray = ls at hl ⊢
  have hl : lv_has ls 6 [(0, .ref x), (1, .int k), (2, .int a), (3, .int b), (4, .int c4)] := hl
  refine lv_iload_n hx hb dX15_send_0 rfl (lv_at hl 1 rfl) ?_
  refine lv_bipush (v := 110) hx hb dX15_send_1 (by decide) ?_
  refine lv_icmp_eq (tgt := 24) hx hb dX15_send_3 (by decide) (fun c_1 => ?_) (fun c_1 => ?_)
  · refine lv_iload_n hx hb dX15_send_24 rfl (lv_at hl 3 rfl) ?_
    refine lv_iconst (v := 1) hx hb dX15_send_25 (by decide) ?_
    refine lv_bipush (v := 99) hx hb dX15_send_26 (by decide) ?_
    have hPc := hP.sub (ws' := []) [] rfl
    have hDc := hD.sub (ws' := []) [] (by decide) rfl
    have hKc := hK.sub (tys' := []) [] rfl
    have hFc := va_free (wc := []) hD hS hA [] rfl
    refine va_calli (va_runS (As := [.int b, .int 1, .int 99]) (rest := []) ⟨hx, hb, hml, hown, hts⟩ (c_rm_isIn_n l dC dI E b 1 99 s.heap.size h) (va_cwS 3 hts gX15_send_X15_isIn rfl rfl rfl (by decide +kernel) ⟨(Nat.le_of_ble_eq_true rfl), (Nat.le_of_ble_eq_true rfl)⟩) ⟨pre_blind, pre_call hPc hDc hKc hFc hE hZ hS⟩ rfl rfl hl.1 rfl (lv_room (Nat.le_of_ble_eq_true rfl)) dX15_send_28 ⟨(Nat.le_of_ble_eq_true rfl), (Nat.le_of_ble_eq_true rfl)⟩) hS (fun q _ h => hFc q h) hFc (fun r u t H1 locs1 ht hvm hw hB hz1 hk1 hS => ?_)
    have hw9 : r = 0 := hw
    rw [hw9]
    obtain ⟨hP, hD, hK⟩ := pst_join (wc := []) (wr := [(x, .inr (21, [.ref s0, .int th])), (s0, .inr (20, [.ref l0, .ref l1, .ref l2, .ref l3, .ref l4, .ref l5, .ref l6, .ref l7, .ref l8, .int 10, .int 100, .int 50, .int 0, .int 0]))]) (w1 := []) (tr := []) (t1 := []) hP hD hK [] [0, 1] [] rfl rfl rfl (by decide) (by decide) hk1 hFc ht hvm hB
    generalize H1 = H at hP hS ⊢
    have hP : va_P (dC, dI) vwCl [(x, .inr (21, [.ref s0, .int th])), (s0, .inr (20, [.ref l0, .ref l1, .ref l2, .ref l3, .ref l4, .ref l5, .ref l6, .ref l7, .ref l8, .int 10, .int 100, .int 50, .int 0, .int 0]))] H := hP
    have hD : va_D A [(x, .inr (21, [.ref s0, .int th])), (s0, .inr (20, [.ref l0, .ref l1, .ref l2, .ref l3, .ref l4, .ref l5, .ref l6, .ref l7, .ref l8, .int 10, .int 100, .int 50, .int 0, .int 0]))] := hD
    have hK : va_K (dC, dI) vwCl [] s := hK
    refine W.widen (k := 0) (n := 0) (Nat.le_of_ble_eq_true rfl) (Nat.le_of_ble_eq_true rfl) ?_
    refine lv_if_eq (tgt := 49) hx hb dX15_send_31 (by decide) (fun _ => ?_) (fun c9 => absurd (by decide) c9)
    refine lv_iconst (v := 0) hx hb dX15_send_49 (by decide) ?_
    refine lv_istore (lv' := [(5, .int 0), (0, .ref x), (1, .int k), (2, .int a), (3, .int b), (4, .int c4)]) hx hb dX15_send_50 hl (by decide) rfl (fun ls hl => ?_)
    refine lv_aload_n hx hb dX15_send_52 rfl (lv_at hl 1 rfl) ?_
    refine lv_iload hx hb dX15_send_53 (lv_at hl 0 rfl) ?_
    refine lv_iconst (v := 1) hx hb dX15_send_55 (by decide) ?_
    have hPc := hP.sub (ws' := [(x, .inr (21, [.ref s0, .int th]))]) [0] rfl
    have hDc := hD.sub (ws' := [(x, .inr (21, [.ref s0, .int th]))]) [0] (by decide) rfl
    have hKc := hK.sub (tys' := []) [] rfl
    have hFc := va_free (wc := [(x, .inr (21, [.ref s0, .int th]))]) hD hS hA [0] rfl
    refine va_calli (va_runV (As := [.int 0, .int 1]) (rest := []) ⟨hx, hb, hml, hown, hts⟩ (c_rm_no_0 l dC dI E x s0 th 1 H.size) (cwV 2 hts gX15_send_X15_no rfl rfl rfl (by decide +kernel) ⟨(Nat.le_of_ble_eq_true rfl), (Nat.le_of_ble_eq_true rfl)⟩) ⟨pre_blind, va_recv hKc hPc (ci := 21) (q0 := 0) rfl rfl, pre_call hPc hDc hKc hFc hE hZ hS⟩ rfl rfl hl.1 rfl (lv_room (Nat.le_of_ble_eq_true rfl)) dX15_send_56 ⟨(Nat.le_of_ble_eq_true rfl), (Nat.le_of_ble_eq_true rfl)⟩) hS (fun q _ h => hFc q h) hFc (fun r u t H1 locs1 ht hvm hw hB hz1 hk1 hS => ?_)
    have hw9 : r = 1 := hw
    rw [hw9]
    obtain ⟨hP, hD, hK⟩ := pst_join (wc := [(x, .inr (21, [.ref s0, .int th]))]) (wr := [(s0, .inr (20, [.ref l0, .ref l1, .ref l2, .ref l3, .ref l4, .ref l5, .ref l6, .ref l7, .ref l8, .int 10, .int 100, .int 50, .int 0, .int 0]))]) (w1 := [(x, .inr (21, [.ref s0, .int 1]))]) (tr := []) (t1 := []) hP hD hK [0] [1] [] rfl rfl rfl (by decide) (by decide) hk1 hFc ht hvm hB
    generalize H1 = H at hP hS ⊢
    have hP : va_P (dC, dI) vwCl [(s0, .inr (20, [.ref l0, .ref l1, .ref l2, .ref l3, .ref l4, .ref l5, .ref l6, .ref l7, .ref l8, .int 10, .int 100, .int 50, .int 0, .int 0])), (x, .inr (21, [.ref s0, .int 1]))] H := hP
    have hD : va_D A [(s0, .inr (20, [.ref l0, .ref l1, .ref l2, .ref l3, .ref l4, .ref l5, .ref l6, .ref l7, .ref l8, .int 10, .int 100, .int 50, .int 0, .int 0])), (x, .inr (21, [.ref s0, .int 1]))] := hD
    have hK : va_K (dC, dI) vwCl [] s := hK
    refine W.widen (k := 0) (n := 0) (Nat.le_of_ble_eq_true rfl) (Nat.le_of_ble_eq_true rfl) ?_
    refine lv_if_ne (tgt := 95) hx hb dX15_send_59 (by decide) (fun _ => ?_) (fun c9 => absurd c9 (by decide))
    refine lv_iconst (v := 0) hx hb dX15_send_95 (by decide) ?_
    have hP9 := hP.sub (ws' := [(x, .inr (21, [.ref s0, .int 1]))]) [1] rfl
    have hD9 := hD.sub (ws' := [(x, .inr (21, [.ref s0, .int 1]))]) [1] (by decide) rfl
    have hK9 := hK.sub (tys' := []) [] rfl
    refine W.widen (k := 0) (n := 0) (Nat.le_of_ble_eq_true rfl) (Nat.le_of_ble_eq_true rfl) ?_
    exact W.iret (v := 0) hx hb hr (fun t ht hW => ⟨⟨0, (), rfl, rfl, pst_of hP9 hD9 hK9 ht hW⟩, hS.F ht⟩) hS.2.2 dX15_send_96
  · refine lv_iload_n hx hb dX15_send_6 rfl (lv_at hl 1 rfl) ?_
    refine lv_bipush (v := 102) hx hb dX15_send_7 (by decide) ?_
    refine lv_icmp_eq (tgt := 24) hx hb dX15_send_9 (by decide) (fun c_6 => ?_) (fun c_6 => ?_)
    · refine lv_iload_n hx hb dX15_send_24 rfl (lv_at hl 3 rfl) ?_
      refine lv_iconst (v := 1) hx hb dX15_send_25 (by decide) ?_
      refine lv_bipush (v := 99) hx hb dX15_send_26 (by decide) ?_
      have hPc := hP.sub (ws' := []) [] rfl
      have hDc := hD.sub (ws' := []) [] (by decide) rfl
      have hKc := hK.sub (tys' := []) [] rfl
      have hFc := va_free (wc := []) hD hS hA [] rfl
      refine va_calli (va_runS (As := [.int b, .int 1, .int 99]) (rest := []) ⟨hx, hb, hml, hown, hts⟩ (c_rm_isIn_n l dC dI E b 1 99 s.heap.size h) (va_cwS 3 hts gX15_send_X15_isIn rfl rfl rfl (by decide +kernel) ⟨(Nat.le_of_ble_eq_true rfl), (Nat.le_of_ble_eq_true rfl)⟩) ⟨pre_blind, pre_call hPc hDc hKc hFc hE hZ hS⟩ rfl rfl hl.1 rfl (lv_room (Nat.le_of_ble_eq_true rfl)) dX15_send_28 ⟨(Nat.le_of_ble_eq_true rfl), (Nat.le_of_ble_eq_true rfl)⟩) hS (fun q _ h => hFc q h) hFc (fun r u t H1 locs1 ht hvm hw hB hz1 hk1 hS => ?_)
      have hw9 : r = 0 := hw
      rw [hw9]
      obtain ⟨hP, hD, hK⟩ := pst_join (wc := []) (wr := [(x, .inr (21, [.ref s0, .int th])), (s0, .inr (20, [.ref l0, .ref l1, .ref l2, .ref l3, .ref l4, .ref l5, .ref l6, .ref l7, .ref l8, .int 10, .int 100, .int 50, .int 0, .int 0]))]) (w1 := []) (tr := []) (t1 := []) hP hD hK [] [0, 1] [] rfl rfl rfl (by decide) (by decide) hk1 hFc ht hvm hB
      generalize H1 = H at hP hS ⊢
      have hP : va_P (dC, dI) vwCl [(x, .inr (21, [.ref s0, .int th])), (s0, .inr (20, [.ref l0, .ref l1, .ref l2, .ref l3, .ref l4, .ref l5, .ref l6, .ref l7, .ref l8, .int 10, .int 100, .int 50, .int 0, .int 0]))] H := hP
      have hD : va_D A [(x, .inr (21, [.ref s0, .int th])), (s0, .inr (20, [.ref l0, .ref l1, .ref l2, .ref l3, .ref l4, .ref l5, .ref l6, .ref l7, .ref l8, .int 10, .int 100, .int 50, .int 0, .int 0]))] := hD
      have hK : va_K (dC, dI) vwCl [] s := hK
      refine W.widen (k := 0) (n := 0) (Nat.le_of_ble_eq_true rfl) (Nat.le_of_ble_eq_true rfl) ?_
      refine lv_if_eq (tgt := 49) hx hb dX15_send_31 (by decide) (fun _ => ?_) (fun c9 => absurd (by decide) c9)
      refine lv_iconst (v := 0) hx hb dX15_send_49 (by decide) ?_
      refine lv_istore (lv' := [(5, .int 0), (0, .ref x), (1, .int k), (2, .int a), (3, .int b), (4, .int c4)]) hx hb dX15_send_50 hl (by decide) rfl (fun ls hl => ?_)
      refine lv_aload_n hx hb dX15_send_52 rfl (lv_at hl 1 rfl) ?_
      refine lv_iload hx hb dX15_send_53 (lv_at hl 0 rfl) ?_
      refine lv_iconst (v := 1) hx hb dX15_send_55 (by decide) ?_
      have hPc := hP.sub (ws' := [(x, .inr (21, [.ref s0, .int th]))]) [0] rfl
      have hDc := hD.sub (ws' := [(x, .inr (21, [.ref s0, .int th]))]) [0] (by decide) rfl
      have hKc := hK.sub (tys' := []) [] rfl
      have hFc := va_free (wc := [(x, .inr (21, [.ref s0, .int th]))]) hD hS hA [0] rfl
      refine va_calli (va_runV (As := [.int 0, .int 1]) (rest := []) ⟨hx, hb, hml, hown, hts⟩ (c_rm_no_0 l dC dI E x s0 th 1 H.size) (cwV 2 hts gX15_send_X15_no rfl rfl rfl (by decide +kernel) ⟨(Nat.le_of_ble_eq_true rfl), (Nat.le_of_ble_eq_true rfl)⟩) ⟨pre_blind, va_recv hKc hPc (ci := 21) (q0 := 0) rfl rfl, pre_call hPc hDc hKc hFc hE hZ hS⟩ rfl rfl hl.1 rfl (lv_room (Nat.le_of_ble_eq_true rfl)) dX15_send_56 ⟨(Nat.le_of_ble_eq_true rfl), (Nat.le_of_ble_eq_true rfl)⟩) hS (fun q _ h => hFc q h) hFc (fun r u t H1 locs1 ht hvm hw hB hz1 hk1 hS => ?_)
      have hw9 : r = 1 := hw
      rw [hw9]
      obtain ⟨hP, hD, hK⟩ := pst_join (wc := [(x, .inr (21, [.ref s0, .int th]))]) (wr := [(s0, .inr (20, [.ref l0, .ref l1, .ref l2, .ref l3, .ref l4, .ref l5, .ref l6, .ref l7, .ref l8, .int 10, .int 100, .int 50, .int 0, .int 0]))]) (w1 := [(x, .inr (21, [.ref s0, .int 1]))]) (tr := []) (t1 := []) hP hD hK [0] [1] [] rfl rfl rfl (by decide) (by decide) hk1 hFc ht hvm hB
      generalize H1 = H at hP hS ⊢
      have hP : va_P (dC, dI) vwCl [(s0, .inr (20, [.ref l0, .ref l1, .ref l2, .ref l3, .ref l4, .ref l5, .ref l6, .ref l7, .ref l8, .int 10, .int 100, .int 50, .int 0, .int 0])), (x, .inr (21, [.ref s0, .int 1]))] H := hP
      have hD : va_D A [(s0, .inr (20, [.ref l0, .ref l1, .ref l2, .ref l3, .ref l4, .ref l5, .ref l6, .ref l7, .ref l8, .int 10, .int 100, .int 50, .int 0, .int 0])), (x, .inr (21, [.ref s0, .int 1]))] := hD
      have hK : va_K (dC, dI) vwCl [] s := hK
      refine W.widen (k := 0) (n := 0) (Nat.le_of_ble_eq_true rfl) (Nat.le_of_ble_eq_true rfl) ?_
      refine lv_if_ne (tgt := 95) hx hb dX15_send_59 (by decide) (fun _ => ?_) (fun c9 => absurd c9 (by decide))
      refine lv_iconst (v := 0) hx hb dX15_send_95 (by decide) ?_
      have hP9 := hP.sub (ws' := [(x, .inr (21, [.ref s0, .int 1]))]) [1] rfl
      have hD9 := hD.sub (ws' := [(x, .inr (21, [.ref s0, .int 1]))]) [1] (by decide) rfl
      have hK9 := hK.sub (tys' := []) [] rfl
      refine W.widen (k := 0) (n := 0) (Nat.le_of_ble_eq_true rfl) (Nat.le_of_ble_eq_true rfl) ?_
      exact W.iret (v := 0) hx hb hr (fun t ht hW => ⟨⟨0, (), rfl, rfl, pst_of hP9 hD9 hK9 ht hW⟩, hS.F ht⟩) hS.2.2 dX15_send_96
    · refine lv_iload_n hx hb dX15_send_12 rfl (lv_at hl 1 rfl) ?_
      refine lv_bipush (v := 111) hx hb dX15_send_13 (by decide) ?_
      refine lv_icmp_eq (tgt := 24) hx hb dX15_send_15 (by decide) (fun c_11 => ?_) (fun c_11 => ?_)
      · refine lv_iload_n hx hb dX15_send_24 rfl (lv_at hl 3 rfl) ?_
        refine lv_iconst (v := 1) hx hb dX15_send_25 (by decide) ?_
        refine lv_bipush (v := 99) hx hb dX15_send_26 (by decide) ?_
        have hPc := hP.sub (ws' := []) [] rfl
        have hDc := hD.sub (ws' := []) [] (by decide) rfl
        have hKc := hK.sub (tys' := []) [] rfl
        have hFc := va_free (wc := []) hD hS hA [] rfl
        refine va_calli (va_runS (As := [.int b, .int 1, .int 99]) (rest := []) ⟨hx, hb, hml, hown, hts⟩ (c_rm_isIn_n l dC dI E b 1 99 s.heap.size h) (va_cwS 3 hts gX15_send_X15_isIn rfl rfl rfl (by decide +kernel) ⟨(Nat.le_of_ble_eq_true rfl), (Nat.le_of_ble_eq_true rfl)⟩) ⟨pre_blind, pre_call hPc hDc hKc hFc hE hZ hS⟩ rfl rfl hl.1 rfl (lv_room (Nat.le_of_ble_eq_true rfl)) dX15_send_28 ⟨(Nat.le_of_ble_eq_true rfl), (Nat.le_of_ble_eq_true rfl)⟩) hS (fun q _ h => hFc q h) hFc (fun r u t H1 locs1 ht hvm hw hB hz1 hk1 hS => ?_)
        have hw9 : r = 0 := hw
        rw [hw9]
        obtain ⟨hP, hD, hK⟩ := pst_join (wc := []) (wr := [(x, .inr (21, [.ref s0, .int th])), (s0, .inr (20, [.ref l0, .ref l1, .ref l2, .ref l3, .ref l4, .ref l5, .ref l6, .ref l7, .ref l8, .int 10, .int 100, .int 50, .int 0, .int 0]))]) (w1 := []) (tr := []) (t1 := []) hP hD hK [] [0, 1] [] rfl rfl rfl (by decide) (by decide) hk1 hFc ht hvm hB
        generalize H1 = H at hP hS ⊢
        have hP : va_P (dC, dI) vwCl [(x, .inr (21, [.ref s0, .int th])), (s0, .inr (20, [.ref l0, .ref l1, .ref l2, .ref l3, .ref l4, .ref l5, .ref l6, .ref l7, .ref l8, .int 10, .int 100, .int 50, .int 0, .int 0]))] H := hP
        have hD : va_D A [(x, .inr (21, [.ref s0, .int th])), (s0, .inr (20, [.ref l0, .ref l1, .ref l2, .ref l3, .ref l4, .ref l5, .ref l6, .ref l7, .ref l8, .int 10, .int 100, .int 50, .int 0, .int 0]))] := hD
        have hK : va_K (dC, dI) vwCl [] s := hK
        refine W.widen (k := 0) (n := 0) (Nat.le_of_ble_eq_true rfl) (Nat.le_of_ble_eq_true rfl) ?_
        refine lv_if_eq (tgt := 49) hx hb dX15_send_31 (by decide) (fun _ => ?_) (fun c9 => absurd (by decide) c9)
        refine lv_iconst (v := 0) hx hb dX15_send_49 (by decide) ?_
        refine lv_istore (lv' := [(5, .int 0), (0, .ref x), (1, .int k), (2, .int a), (3, .int b), (4, .int c4)]) hx hb dX15_send_50 hl (by decide) rfl (fun ls hl => ?_)
        refine lv_aload_n hx hb dX15_send_52 rfl (lv_at hl 1 rfl) ?_
        refine lv_iload hx hb dX15_send_53 (lv_at hl 0 rfl) ?_
        refine lv_iconst (v := 1) hx hb dX15_send_55 (by decide) ?_
        have hPc := hP.sub (ws' := [(x, .inr (21, [.ref s0, .int th]))]) [0] rfl
        have hDc := hD.sub (ws' := [(x, .inr (21, [.ref s0, .int th]))]) [0] (by decide) rfl
        have hKc := hK.sub (tys' := []) [] rfl
        have hFc := va_free (wc := [(x, .inr (21, [.ref s0, .int th]))]) hD hS hA [0] rfl
        refine va_calli (va_runV (As := [.int 0, .int 1]) (rest := []) ⟨hx, hb, hml, hown, hts⟩ (c_rm_no_0 l dC dI E x s0 th 1 H.size) (cwV 2 hts gX15_send_X15_no rfl rfl rfl (by decide +kernel) ⟨(Nat.le_of_ble_eq_true rfl), (Nat.le_of_ble_eq_true rfl)⟩) ⟨pre_blind, va_recv hKc hPc (ci := 21) (q0 := 0) rfl rfl, pre_call hPc hDc hKc hFc hE hZ hS⟩ rfl rfl hl.1 rfl (lv_room (Nat.le_of_ble_eq_true rfl)) dX15_send_56 ⟨(Nat.le_of_ble_eq_true rfl), (Nat.le_of_ble_eq_true rfl)⟩) hS (fun q _ h => hFc q h) hFc (fun r u t H1 locs1 ht hvm hw hB hz1 hk1 hS => ?_)
        have hw9 : r = 1 := hw
        rw [hw9]
        obtain ⟨hP, hD, hK⟩ := pst_join (wc := [(x, .inr (21, [.ref s0, .int th]))]) (wr := [(s0, .inr (20, [.ref l0, .ref l1, .ref l2, .ref l3, .ref l4, .ref l5, .ref l6, .ref l7, .ref l8, .int 10, .int 100, .int 50, .int 0, .int 0]))]) (w1 := [(x, .inr (21, [.ref s0, .int 1]))]) (tr := []) (t1 := []) hP hD hK [0] [1] [] rfl rfl rfl (by decide) (by decide) hk1 hFc ht hvm hB
        generalize H1 = H at hP hS ⊢
        have hP : va_P (dC, dI) vwCl [(s0, .inr (20, [.ref l0, .ref l1, .ref l2, .ref l3, .ref l4, .ref l5, .ref l6, .ref l7, .ref l8, .int 10, .int 100, .int 50, .int 0, .int 0])), (x, .inr (21, [.ref s0, .int 1]))] H := hP
        have hD : va_D A [(s0, .inr (20, [.ref l0, .ref l1, .ref l2, .ref l3, .ref l4, .ref l5, .ref l6, .ref l7, .ref l8, .int 10, .int 100, .int 50, .int 0, .int 0])), (x, .inr (21, [.ref s0, .int 1]))] := hD
        have hK : va_K (dC, dI) vwCl [] s := hK
        refine W.widen (k := 0) (n := 0) (Nat.le_of_ble_eq_true rfl) (Nat.le_of_ble_eq_true rfl) ?_
        refine lv_if_ne (tgt := 95) hx hb dX15_send_59 (by decide) (fun _ => ?_) (fun c9 => absurd c9 (by decide))
        refine lv_iconst (v := 0) hx hb dX15_send_95 (by decide) ?_
        have hP9 := hP.sub (ws' := [(x, .inr (21, [.ref s0, .int 1]))]) [1] rfl
        have hD9 := hD.sub (ws' := [(x, .inr (21, [.ref s0, .int 1]))]) [1] (by decide) rfl
        have hK9 := hK.sub (tys' := []) [] rfl
        refine W.widen (k := 0) (n := 0) (Nat.le_of_ble_eq_true rfl) (Nat.le_of_ble_eq_true rfl) ?_
        exact W.iret (v := 0) hx hb hr (fun t ht hW => ⟨⟨0, (), rfl, rfl, pst_of hP9 hD9 hK9 ht hW⟩, hS.F ht⟩) hS.2.2 dX15_send_96
      · refine lv_iload_n hx hb dX15_send_18 rfl (lv_at hl 1 rfl) ?_
        refine lv_bipush (v := 104) hx hb dX15_send_19 (by decide) ?_
        refine lv_icmp_ne (tgt := 49) hx hb dX15_send_21 (by decide) (fun c9 => (hk.elim c_1 (fun h => h.elim c_6 (fun h => h.elim c_11 c9))).elim) (fun c_16 => ?_)
        refine lv_iload_n hx hb dX15_send_24 rfl (lv_at hl 3 rfl) ?_
        refine lv_iconst (v := 1) hx hb dX15_send_25 (by decide) ?_
        refine lv_bipush (v := 99) hx hb dX15_send_26 (by decide) ?_
        have hPc := hP.sub (ws' := []) [] rfl
        have hDc := hD.sub (ws' := []) [] (by decide) rfl
        have hKc := hK.sub (tys' := []) [] rfl
        have hFc := va_free (wc := []) hD hS hA [] rfl
        refine va_calli (va_runS (As := [.int b, .int 1, .int 99]) (rest := []) ⟨hx, hb, hml, hown, hts⟩ (c_rm_isIn_n l dC dI E b 1 99 s.heap.size h) (va_cwS 3 hts gX15_send_X15_isIn rfl rfl rfl (by decide +kernel) ⟨(Nat.le_of_ble_eq_true rfl), (Nat.le_of_ble_eq_true rfl)⟩) ⟨pre_blind, pre_call hPc hDc hKc hFc hE hZ hS⟩ rfl rfl hl.1 rfl (lv_room (Nat.le_of_ble_eq_true rfl)) dX15_send_28 ⟨(Nat.le_of_ble_eq_true rfl), (Nat.le_of_ble_eq_true rfl)⟩) hS (fun q _ h => hFc q h) hFc (fun r u t H1 locs1 ht hvm hw hB hz1 hk1 hS => ?_)
        have hw9 : r = 0 := hw
        rw [hw9]
        obtain ⟨hP, hD, hK⟩ := pst_join (wc := []) (wr := [(x, .inr (21, [.ref s0, .int th])), (s0, .inr (20, [.ref l0, .ref l1, .ref l2, .ref l3, .ref l4, .ref l5, .ref l6, .ref l7, .ref l8, .int 10, .int 100, .int 50, .int 0, .int 0]))]) (w1 := []) (tr := []) (t1 := []) hP hD hK [] [0, 1] [] rfl rfl rfl (by decide) (by decide) hk1 hFc ht hvm hB
        generalize H1 = H at hP hS ⊢
        have hP : va_P (dC, dI) vwCl [(x, .inr (21, [.ref s0, .int th])), (s0, .inr (20, [.ref l0, .ref l1, .ref l2, .ref l3, .ref l4, .ref l5, .ref l6, .ref l7, .ref l8, .int 10, .int 100, .int 50, .int 0, .int 0]))] H := hP
        have hD : va_D A [(x, .inr (21, [.ref s0, .int th])), (s0, .inr (20, [.ref l0, .ref l1, .ref l2, .ref l3, .ref l4, .ref l5, .ref l6, .ref l7, .ref l8, .int 10, .int 100, .int 50, .int 0, .int 0]))] := hD
        have hK : va_K (dC, dI) vwCl [] s := hK
        refine W.widen (k := 0) (n := 0) (Nat.le_of_ble_eq_true rfl) (Nat.le_of_ble_eq_true rfl) ?_
        refine lv_if_eq (tgt := 49) hx hb dX15_send_31 (by decide) (fun _ => ?_) (fun c9 => absurd (by decide) c9)
        refine lv_iconst (v := 0) hx hb dX15_send_49 (by decide) ?_
        refine lv_istore (lv' := [(5, .int 0), (0, .ref x), (1, .int k), (2, .int a), (3, .int b), (4, .int c4)]) hx hb dX15_send_50 hl (by decide) rfl (fun ls hl => ?_)
        refine lv_aload_n hx hb dX15_send_52 rfl (lv_at hl 1 rfl) ?_
        refine lv_iload hx hb dX15_send_53 (lv_at hl 0 rfl) ?_
        refine lv_iconst (v := 1) hx hb dX15_send_55 (by decide) ?_
        have hPc := hP.sub (ws' := [(x, .inr (21, [.ref s0, .int th]))]) [0] rfl
        have hDc := hD.sub (ws' := [(x, .inr (21, [.ref s0, .int th]))]) [0] (by decide) rfl
        have hKc := hK.sub (tys' := []) [] rfl
        have hFc := va_free (wc := [(x, .inr (21, [.ref s0, .int th]))]) hD hS hA [0] rfl
        refine va_calli (va_runV (As := [.int 0, .int 1]) (rest := []) ⟨hx, hb, hml, hown, hts⟩ (c_rm_no_0 l dC dI E x s0 th 1 H.size) (cwV 2 hts gX15_send_X15_no rfl rfl rfl (by decide +kernel) ⟨(Nat.le_of_ble_eq_true rfl), (Nat.le_of_ble_eq_true rfl)⟩) ⟨pre_blind, va_recv hKc hPc (ci := 21) (q0 := 0) rfl rfl, pre_call hPc hDc hKc hFc hE hZ hS⟩ rfl rfl hl.1 rfl (lv_room (Nat.le_of_ble_eq_true rfl)) dX15_send_56 ⟨(Nat.le_of_ble_eq_true rfl), (Nat.le_of_ble_eq_true rfl)⟩) hS (fun q _ h => hFc q h) hFc (fun r u t H1 locs1 ht hvm hw hB hz1 hk1 hS => ?_)
        have hw9 : r = 1 := hw
        rw [hw9]
        obtain ⟨hP, hD, hK⟩ := pst_join (wc := [(x, .inr (21, [.ref s0, .int th]))]) (wr := [(s0, .inr (20, [.ref l0, .ref l1, .ref l2, .ref l3, .ref l4, .ref l5, .ref l6, .ref l7, .ref l8, .int 10, .int 100, .int 50, .int 0, .int 0]))]) (w1 := [(x, .inr (21, [.ref s0, .int 1]))]) (tr := []) (t1 := []) hP hD hK [0] [1] [] rfl rfl rfl (by decide) (by decide) hk1 hFc ht hvm hB
        generalize H1 = H at hP hS ⊢
        have hP : va_P (dC, dI) vwCl [(s0, .inr (20, [.ref l0, .ref l1, .ref l2, .ref l3, .ref l4, .ref l5, .ref l6, .ref l7, .ref l8, .int 10, .int 100, .int 50, .int 0, .int 0])), (x, .inr (21, [.ref s0, .int 1]))] H := hP
        have hD : va_D A [(s0, .inr (20, [.ref l0, .ref l1, .ref l2, .ref l3, .ref l4, .ref l5, .ref l6, .ref l7, .ref l8, .int 10, .int 100, .int 50, .int 0, .int 0])), (x, .inr (21, [.ref s0, .int 1]))] := hD
        have hK : va_K (dC, dI) vwCl [] s := hK
        refine W.widen (k := 0) (n := 0) (Nat.le_of_ble_eq_true rfl) (Nat.le_of_ble_eq_true rfl) ?_
        refine lv_if_ne (tgt := 95) hx hb dX15_send_59 (by decide) (fun _ => ?_) (fun c9 => absurd c9 (by decide))
        refine lv_iconst (v := 0) hx hb dX15_send_95 (by decide) ?_
        have hP9 := hP.sub (ws' := [(x, .inr (21, [.ref s0, .int 1]))]) [1] rfl
        have hD9 := hD.sub (ws' := [(x, .inr (21, [.ref s0, .int 1]))]) [1] (by decide) rfl
        have hK9 := hK.sub (tys' := []) [] rfl
        refine W.widen (k := 0) (n := 0) (Nat.le_of_ble_eq_true rfl) (Nat.le_of_ble_eq_true rfl) ?_
        exact W.iret (v := 0) hx hb hr (fun t ht hW => ⟨⟨0, (), rfl, rfl, pst_of hP9 hD9 hK9 ht hW⟩, hS.F ht⟩) hS.2.2 dX15_send_96

set_option maxHeartbeats 4000000 in
set_option maxRecDepth 100000 in
theorem c_rm_send_n3 (l : Launch) (dC : Nat → ClassId) (dI : Nat → Nat → Nat) (E : Nat → Nat) (x : Nat) (s0 : Nat) (l0 : Nat) (l1 : Nat) (l2 : Nat) (l3 : Nat) (l4 : Nat) (l5 : Nat) (l6 : Nat) (l7 : Nat) (l8 : Nat) (th : Int32) (k : Int32) (a : Int32) (b : Int32) (c4 : Int32) (sz : Nat) (hk : k = 110 ∨ k = 102 ∨ k = 111 ∨ k = 104) (hla1 : ¬ b < 1) (hua1 : ¬ 99 < b) (h : ¬ (¬ c4 < 0 ∧ ¬ 99 < c4)) : Met l yX15_send wsX15_send ({ frames := 1, cells := 0, slots := 0, locals := 22 }) (va_Pc [.ref x, .int k, .int a, .int b, .int c4] (pre dC dI E [(x, .inr (21, [.ref s0, .int th])), (s0, .inr (20, [.ref l0, .ref l1, .ref l2, .ref l3, .ref l4, .ref l5, .ref l6, .ref l7, .ref l8, .int 10, .int 100, .int 50, .int 0, .int 0]))] [] sz)) (va_Qi (fun (r : Int32) (_ : Unit) => r = 0) (fun _ t => pst dC dI (va_A [(x, .inr (21, [.ref s0, .int th])), (s0, .inr (20, [.ref l0, .ref l1, .ref l2, .ref l3, .ref l4, .ref l5, .ref l6, .ref l7, .ref l8, .int 10, .int 100, .int 50, .int 0, .int 0]))] sz) [(x, .inr (21, [.ref s0, .int 1]))] [] t) (va_A [(x, .inr (21, [.ref s0, .int th])), (s0, .inr (20, [.ref l0, .ref l1, .ref l2, .ref l3, .ref l4, .ref l5, .ref l6, .ref l7, .ref l8, .int 10, .int 100, .int 50, .int 0, .int 0]))] sz)) 0 0 (va_A [(x, .inr (21, [.ref s0, .int th])), (s0, .inr (20, [.ref l0, .ref l1, .ref l2, .ref l3, .ref l4, .ref l5, .ref l6, .ref l7, .ref l8, .int 10, .int 100, .int 50, .int 0, .int 0]))] sz) := by
  refine Met.ofW (cc := cX15_send) (maxL := 6) (ret := (some .int)) (by decide) rfl ?_
  intro p e s m args below meth c s₁ B hml hv
  obtain ⟨rfl, hsz, hP, hK, hD0, hE, hZ0⟩ := hv
  have hx := B.exec
  have hb := B.bytes
  have hr := B.returns
  have hts := atoms_spec (ws := wsX15_send) B.pre
  have hown : s.vm.findClass RX15 = some m.cls := findClass_of_methodNamed B.named
  have hlocks := B.notSynchronized
  subst hsz
  have hD := hD0.self (sz := s.heap.size)
  generalize hAe : va_A [(x, .inr (21, [.ref s0, .int th])), (s0, .inr (20, [.ref l0, .ref l1, .ref l2, .ref l3, .ref l4, .ref l5, .ref l6, .ref l7, .ref l8, .int 10, .int 100, .int 50, .int 0, .int 0]))] s.heap.size = A at hD hZ0 ⊢
  have hZ := hZ0
  have hA : ∀ q : Nat, s.heap.size ≤ q → A q := fun q h => by rw [← hAe]; exact Or.inr h
  have hS : va_S A s.heap s.heap [] := va_S.rf
  have hP : va_P (dC, dI) vwCl [(x, .inr (21, [.ref s0, .int th])), (s0, .inr (20, [.ref l0, .ref l1, .ref l2, .ref l3, .ref l4, .ref l5, .ref l6, .ref l7, .ref l8, .int 10, .int 100, .int 50, .int 0, .int 0]))] s.heap := hP
  have hl := lv_entry ([.ref x, .int k, .int a, .int b, .int c4]) (n := 6) (Nat.le_of_ble_eq_true rfl)
  rw [lg_entry_eq]
  generalize (lg_sl ([.ref x, .int k, .int a, .int b, .int c4]) ++ List.replicate (6 - (lg_sl ([.ref x, .int k, .int a, .int b, .int c4])).length) Slot.unset).toArray = ls at hl ⊢
  have hl : lv_has ls 6 [(0, .ref x), (1, .int k), (2, .int a), (3, .int b), (4, .int c4)] := hl
  refine lv_iload_n hx hb dX15_send_0 rfl (lv_at hl 1 rfl) ?_
  refine lv_bipush (v := 110) hx hb dX15_send_1 (by decide) ?_
  refine lv_icmp_eq (tgt := 24) hx hb dX15_send_3 (by decide) (fun c_1 => ?_) (fun c_1 => ?_)
  · refine lv_iload_n hx hb dX15_send_24 rfl (lv_at hl 3 rfl) ?_
    refine lv_iconst (v := 1) hx hb dX15_send_25 (by decide) ?_
    refine lv_bipush (v := 99) hx hb dX15_send_26 (by decide) ?_
    have hPc := hP.sub (ws' := []) [] rfl
    have hDc := hD.sub (ws' := []) [] (by decide) rfl
    have hKc := hK.sub (tys' := []) [] rfl
    have hFc := va_free (wc := []) hD hS hA [] rfl
    refine va_calli (va_runS (As := [.int b, .int 1, .int 99]) (rest := []) ⟨hx, hb, hml, hown, hts⟩ (c_rm_isIn_y l dC dI E b 1 99 s.heap.size hla1 hua1) (va_cwS 3 hts gX15_send_X15_isIn rfl rfl rfl (by decide +kernel) ⟨(Nat.le_of_ble_eq_true rfl), (Nat.le_of_ble_eq_true rfl)⟩) ⟨pre_blind, pre_call hPc hDc hKc hFc hE hZ hS⟩ rfl rfl hl.1 rfl (lv_room (Nat.le_of_ble_eq_true rfl)) dX15_send_28 ⟨(Nat.le_of_ble_eq_true rfl), (Nat.le_of_ble_eq_true rfl)⟩) hS (fun q _ h => hFc q h) hFc (fun r u t H1 locs1 ht hvm hw hB hz1 hk1 hS => ?_)
    have hw9 : r = 1 := hw
    rw [hw9]
    obtain ⟨hP, hD, hK⟩ := pst_join (wc := []) (wr := [(x, .inr (21, [.ref s0, .int th])), (s0, .inr (20, [.ref l0, .ref l1, .ref l2, .ref l3, .ref l4, .ref l5, .ref l6, .ref l7, .ref l8, .int 10, .int 100, .int 50, .int 0, .int 0]))]) (w1 := []) (tr := []) (t1 := []) hP hD hK [] [0, 1] [] rfl rfl rfl (by decide) (by decide) hk1 hFc ht hvm hB
    generalize H1 = H at hP hS ⊢
    have hP : va_P (dC, dI) vwCl [(x, .inr (21, [.ref s0, .int th])), (s0, .inr (20, [.ref l0, .ref l1, .ref l2, .ref l3, .ref l4, .ref l5, .ref l6, .ref l7, .ref l8, .int 10, .int 100, .int 50, .int 0, .int 0]))] H := hP
    have hD : va_D A [(x, .inr (21, [.ref s0, .int th])), (s0, .inr (20, [.ref l0, .ref l1, .ref l2, .ref l3, .ref l4, .ref l5, .ref l6, .ref l7, .ref l8, .int 10, .int 100, .int 50, .int 0, .int 0]))] := hD
    have hK : va_K (dC, dI) vwCl [] s := hK
    refine W.widen (k := 0) (n := 0) (Nat.le_of_ble_eq_true rfl) (Nat.le_of_ble_eq_true rfl) ?_
    refine lv_if_eq (tgt := 49) hx hb dX15_send_31 (by decide) (fun c9 => absurd c9 (by decide)) (fun _ => ?_)
    refine lv_iload hx hb dX15_send_34 (lv_at hl 4 rfl) ?_
    refine lv_iconst (v := 0) hx hb dX15_send_36 (by decide) ?_
    refine lv_bipush (v := 99) hx hb dX15_send_37 (by decide) ?_
    have hPc := hP.sub (ws' := []) [] rfl
    have hDc := hD.sub (ws' := []) [] (by decide) rfl
    have hKc := hK.sub (tys' := []) [] rfl
    have hFc := va_free (wc := []) hD hS hA [] rfl
    refine va_calli (va_runS (As := [.int c4, .int 0, .int 99]) (rest := []) ⟨hx, hb, hml, hown, hts⟩ (c_rm_isIn_n l dC dI E c4 0 99 H.size h) (va_cwS 3 hts gX15_send_X15_isIn rfl rfl rfl (by decide +kernel) ⟨(Nat.le_of_ble_eq_true rfl), (Nat.le_of_ble_eq_true rfl)⟩) ⟨pre_blind, pre_call hPc hDc hKc hFc hE hZ hS⟩ rfl rfl hl.1 rfl (lv_room (Nat.le_of_ble_eq_true rfl)) dX15_send_39 ⟨(Nat.le_of_ble_eq_true rfl), (Nat.le_of_ble_eq_true rfl)⟩) hS (fun q _ h => hFc q h) hFc (fun r u t H1 locs1 ht hvm hw hB hz1 hk1 hS => ?_)
    have hw9 : r = 0 := hw
    rw [hw9]
    obtain ⟨hP, hD, hK⟩ := pst_join (wc := []) (wr := [(x, .inr (21, [.ref s0, .int th])), (s0, .inr (20, [.ref l0, .ref l1, .ref l2, .ref l3, .ref l4, .ref l5, .ref l6, .ref l7, .ref l8, .int 10, .int 100, .int 50, .int 0, .int 0]))]) (w1 := []) (tr := []) (t1 := []) hP hD hK [] [0, 1] [] rfl rfl rfl (by decide) (by decide) hk1 hFc ht hvm hB
    generalize H1 = H at hP hS ⊢
    have hP : va_P (dC, dI) vwCl [(x, .inr (21, [.ref s0, .int th])), (s0, .inr (20, [.ref l0, .ref l1, .ref l2, .ref l3, .ref l4, .ref l5, .ref l6, .ref l7, .ref l8, .int 10, .int 100, .int 50, .int 0, .int 0]))] H := hP
    have hD : va_D A [(x, .inr (21, [.ref s0, .int th])), (s0, .inr (20, [.ref l0, .ref l1, .ref l2, .ref l3, .ref l4, .ref l5, .ref l6, .ref l7, .ref l8, .int 10, .int 100, .int 50, .int 0, .int 0]))] := hD
    have hK : va_K (dC, dI) vwCl [] s := hK
    refine W.widen (k := 0) (n := 0) (Nat.le_of_ble_eq_true rfl) (Nat.le_of_ble_eq_true rfl) ?_
    refine lv_if_eq (tgt := 49) hx hb dX15_send_42 (by decide) (fun _ => ?_) (fun c9 => absurd (by decide) c9)
    refine lv_iconst (v := 0) hx hb dX15_send_49 (by decide) ?_
    refine lv_istore (lv' := [(5, .int 0), (0, .ref x), (1, .int k), (2, .int a), (3, .int b), (4, .int c4)]) hx hb dX15_send_50 hl (by decide) rfl (fun ls hl => ?_)
    refine lv_aload_n hx hb dX15_send_52 rfl (lv_at hl 1 rfl) ?_
    refine lv_iload hx hb dX15_send_53 (lv_at hl 0 rfl) ?_
    refine lv_iconst (v := 1) hx hb dX15_send_55 (by decide) ?_
    have hPc := hP.sub (ws' := [(x, .inr (21, [.ref s0, .int th]))]) [0] rfl
    have hDc := hD.sub (ws' := [(x, .inr (21, [.ref s0, .int th]))]) [0] (by decide) rfl
    have hKc := hK.sub (tys' := []) [] rfl
    have hFc := va_free (wc := [(x, .inr (21, [.ref s0, .int th]))]) hD hS hA [0] rfl
    refine va_calli (va_runV (As := [.int 0, .int 1]) (rest := []) ⟨hx, hb, hml, hown, hts⟩ (c_rm_no_0 l dC dI E x s0 th 1 H.size) (cwV 2 hts gX15_send_X15_no rfl rfl rfl (by decide +kernel) ⟨(Nat.le_of_ble_eq_true rfl), (Nat.le_of_ble_eq_true rfl)⟩) ⟨pre_blind, va_recv hKc hPc (ci := 21) (q0 := 0) rfl rfl, pre_call hPc hDc hKc hFc hE hZ hS⟩ rfl rfl hl.1 rfl (lv_room (Nat.le_of_ble_eq_true rfl)) dX15_send_56 ⟨(Nat.le_of_ble_eq_true rfl), (Nat.le_of_ble_eq_true rfl)⟩) hS (fun q _ h => hFc q h) hFc (fun r u t H1 locs1 ht hvm hw hB hz1 hk1 hS => ?_)
    have hw9 : r = 1 := hw
    rw [hw9]
    obtain ⟨hP, hD, hK⟩ := pst_join (wc := [(x, .inr (21, [.ref s0, .int th]))]) (wr := [(s0, .inr (20, [.ref l0, .ref l1, .ref l2, .ref l3, .ref l4, .ref l5, .ref l6, .ref l7, .ref l8, .int 10, .int 100, .int 50, .int 0, .int 0]))]) (w1 := [(x, .inr (21, [.ref s0, .int 1]))]) (tr := []) (t1 := []) hP hD hK [0] [1] [] rfl rfl rfl (by decide) (by decide) hk1 hFc ht hvm hB
    generalize H1 = H at hP hS ⊢
    have hP : va_P (dC, dI) vwCl [(s0, .inr (20, [.ref l0, .ref l1, .ref l2, .ref l3, .ref l4, .ref l5, .ref l6, .ref l7, .ref l8, .int 10, .int 100, .int 50, .int 0, .int 0])), (x, .inr (21, [.ref s0, .int 1]))] H := hP
    have hD : va_D A [(s0, .inr (20, [.ref l0, .ref l1, .ref l2, .ref l3, .ref l4, .ref l5, .ref l6, .ref l7, .ref l8, .int 10, .int 100, .int 50, .int 0, .int 0])), (x, .inr (21, [.ref s0, .int 1]))] := hD
    have hK : va_K (dC, dI) vwCl [] s := hK
    refine W.widen (k := 0) (n := 0) (Nat.le_of_ble_eq_true rfl) (Nat.le_of_ble_eq_true rfl) ?_
    refine lv_if_ne (tgt := 95) hx hb dX15_send_59 (by decide) (fun _ => ?_) (fun c9 => absurd c9 (by decide))
    refine lv_iconst (v := 0) hx hb dX15_send_95 (by decide) ?_
    have hP9 := hP.sub (ws' := [(x, .inr (21, [.ref s0, .int 1]))]) [1] rfl
    have hD9 := hD.sub (ws' := [(x, .inr (21, [.ref s0, .int 1]))]) [1] (by decide) rfl
    have hK9 := hK.sub (tys' := []) [] rfl
    refine W.widen (k := 0) (n := 0) (Nat.le_of_ble_eq_true rfl) (Nat.le_of_ble_eq_true rfl) ?_
    exact W.iret (v := 0) hx hb hr (fun t ht hW => ⟨⟨0, (), rfl, rfl, pst_of hP9 hD9 hK9 ht hW⟩, hS.F ht⟩) hS.2.2 dX15_send_96
  · refine lv_iload_n hx hb dX15_send_6 rfl (lv_at hl 1 rfl) ?_
    refine lv_bipush (v := 102) hx hb dX15_send_7 (by decide) ?_
    refine lv_icmp_eq (tgt := 24) hx hb dX15_send_9 (by decide) (fun c_8 => ?_) (fun c_8 => ?_)
    · refine lv_iload_n hx hb dX15_send_24 rfl (lv_at hl 3 rfl) ?_
      refine lv_iconst (v := 1) hx hb dX15_send_25 (by decide) ?_
      refine lv_bipush (v := 99) hx hb dX15_send_26 (by decide) ?_
      have hPc := hP.sub (ws' := []) [] rfl
      have hDc := hD.sub (ws' := []) [] (by decide) rfl
      have hKc := hK.sub (tys' := []) [] rfl
      have hFc := va_free (wc := []) hD hS hA [] rfl
      refine va_calli (va_runS (As := [.int b, .int 1, .int 99]) (rest := []) ⟨hx, hb, hml, hown, hts⟩ (c_rm_isIn_y l dC dI E b 1 99 s.heap.size hla1 hua1) (va_cwS 3 hts gX15_send_X15_isIn rfl rfl rfl (by decide +kernel) ⟨(Nat.le_of_ble_eq_true rfl), (Nat.le_of_ble_eq_true rfl)⟩) ⟨pre_blind, pre_call hPc hDc hKc hFc hE hZ hS⟩ rfl rfl hl.1 rfl (lv_room (Nat.le_of_ble_eq_true rfl)) dX15_send_28 ⟨(Nat.le_of_ble_eq_true rfl), (Nat.le_of_ble_eq_true rfl)⟩) hS (fun q _ h => hFc q h) hFc (fun r u t H1 locs1 ht hvm hw hB hz1 hk1 hS => ?_)
      have hw9 : r = 1 := hw
      rw [hw9]
      obtain ⟨hP, hD, hK⟩ := pst_join (wc := []) (wr := [(x, .inr (21, [.ref s0, .int th])), (s0, .inr (20, [.ref l0, .ref l1, .ref l2, .ref l3, .ref l4, .ref l5, .ref l6, .ref l7, .ref l8, .int 10, .int 100, .int 50, .int 0, .int 0]))]) (w1 := []) (tr := []) (t1 := []) hP hD hK [] [0, 1] [] rfl rfl rfl (by decide) (by decide) hk1 hFc ht hvm hB
      generalize H1 = H at hP hS ⊢
      have hP : va_P (dC, dI) vwCl [(x, .inr (21, [.ref s0, .int th])), (s0, .inr (20, [.ref l0, .ref l1, .ref l2, .ref l3, .ref l4, .ref l5, .ref l6, .ref l7, .ref l8, .int 10, .int 100, .int 50, .int 0, .int 0]))] H := hP
      have hD : va_D A [(x, .inr (21, [.ref s0, .int th])), (s0, .inr (20, [.ref l0, .ref l1, .ref l2, .ref l3, .ref l4, .ref l5, .ref l6, .ref l7, .ref l8, .int 10, .int 100, .int 50, .int 0, .int 0]))] := hD
      have hK : va_K (dC, dI) vwCl [] s := hK
      refine W.widen (k := 0) (n := 0) (Nat.le_of_ble_eq_true rfl) (Nat.le_of_ble_eq_true rfl) ?_
      refine lv_if_eq (tgt := 49) hx hb dX15_send_31 (by decide) (fun c9 => absurd c9 (by decide)) (fun _ => ?_)
      refine lv_iload hx hb dX15_send_34 (lv_at hl 4 rfl) ?_
      refine lv_iconst (v := 0) hx hb dX15_send_36 (by decide) ?_
      refine lv_bipush (v := 99) hx hb dX15_send_37 (by decide) ?_
      have hPc := hP.sub (ws' := []) [] rfl
      have hDc := hD.sub (ws' := []) [] (by decide) rfl
      have hKc := hK.sub (tys' := []) [] rfl
      have hFc := va_free (wc := []) hD hS hA [] rfl
      refine va_calli (va_runS (As := [.int c4, .int 0, .int 99]) (rest := []) ⟨hx, hb, hml, hown, hts⟩ (c_rm_isIn_n l dC dI E c4 0 99 H.size h) (va_cwS 3 hts gX15_send_X15_isIn rfl rfl rfl (by decide +kernel) ⟨(Nat.le_of_ble_eq_true rfl), (Nat.le_of_ble_eq_true rfl)⟩) ⟨pre_blind, pre_call hPc hDc hKc hFc hE hZ hS⟩ rfl rfl hl.1 rfl (lv_room (Nat.le_of_ble_eq_true rfl)) dX15_send_39 ⟨(Nat.le_of_ble_eq_true rfl), (Nat.le_of_ble_eq_true rfl)⟩) hS (fun q _ h => hFc q h) hFc (fun r u t H1 locs1 ht hvm hw hB hz1 hk1 hS => ?_)
      have hw9 : r = 0 := hw
      rw [hw9]
      obtain ⟨hP, hD, hK⟩ := pst_join (wc := []) (wr := [(x, .inr (21, [.ref s0, .int th])), (s0, .inr (20, [.ref l0, .ref l1, .ref l2, .ref l3, .ref l4, .ref l5, .ref l6, .ref l7, .ref l8, .int 10, .int 100, .int 50, .int 0, .int 0]))]) (w1 := []) (tr := []) (t1 := []) hP hD hK [] [0, 1] [] rfl rfl rfl (by decide) (by decide) hk1 hFc ht hvm hB
      generalize H1 = H at hP hS ⊢
      have hP : va_P (dC, dI) vwCl [(x, .inr (21, [.ref s0, .int th])), (s0, .inr (20, [.ref l0, .ref l1, .ref l2, .ref l3, .ref l4, .ref l5, .ref l6, .ref l7, .ref l8, .int 10, .int 100, .int 50, .int 0, .int 0]))] H := hP
      have hD : va_D A [(x, .inr (21, [.ref s0, .int th])), (s0, .inr (20, [.ref l0, .ref l1, .ref l2, .ref l3, .ref l4, .ref l5, .ref l6, .ref l7, .ref l8, .int 10, .int 100, .int 50, .int 0, .int 0]))] := hD
      have hK : va_K (dC, dI) vwCl [] s := hK
      refine W.widen (k := 0) (n := 0) (Nat.le_of_ble_eq_true rfl) (Nat.le_of_ble_eq_true rfl) ?_
      refine lv_if_eq (tgt := 49) hx hb dX15_send_42 (by decide) (fun _ => ?_) (fun c9 => absurd (by decide) c9)
      refine lv_iconst (v := 0) hx hb dX15_send_49 (by decide) ?_
      refine lv_istore (lv' := [(5, .int 0), (0, .ref x), (1, .int k), (2, .int a), (3, .int b), (4, .int c4)]) hx hb dX15_send_50 hl (by decide) rfl (fun ls hl => ?_)
      refine lv_aload_n hx hb dX15_send_52 rfl (lv_at hl 1 rfl) ?_
      refine lv_iload hx hb dX15_send_53 (lv_at hl 0 rfl) ?_
      refine lv_iconst (v := 1) hx hb dX15_send_55 (by decide) ?_
      have hPc := hP.sub (ws' := [(x, .inr (21, [.ref s0, .int th]))]) [0] rfl
      have hDc := hD.sub (ws' := [(x, .inr (21, [.ref s0, .int th]))]) [0] (by decide) rfl
      have hKc := hK.sub (tys' := []) [] rfl
      have hFc := va_free (wc := [(x, .inr (21, [.ref s0, .int th]))]) hD hS hA [0] rfl
      refine va_calli (va_runV (As := [.int 0, .int 1]) (rest := []) ⟨hx, hb, hml, hown, hts⟩ (c_rm_no_0 l dC dI E x s0 th 1 H.size) (cwV 2 hts gX15_send_X15_no rfl rfl rfl (by decide +kernel) ⟨(Nat.le_of_ble_eq_true rfl), (Nat.le_of_ble_eq_true rfl)⟩) ⟨pre_blind, va_recv hKc hPc (ci := 21) (q0 := 0) rfl rfl, pre_call hPc hDc hKc hFc hE hZ hS⟩ rfl rfl hl.1 rfl (lv_room (Nat.le_of_ble_eq_true rfl)) dX15_send_56 ⟨(Nat.le_of_ble_eq_true rfl), (Nat.le_of_ble_eq_true rfl)⟩) hS (fun q _ h => hFc q h) hFc (fun r u t H1 locs1 ht hvm hw hB hz1 hk1 hS => ?_)
      have hw9 : r = 1 := hw
      rw [hw9]
      obtain ⟨hP, hD, hK⟩ := pst_join (wc := [(x, .inr (21, [.ref s0, .int th]))]) (wr := [(s0, .inr (20, [.ref l0, .ref l1, .ref l2, .ref l3, .ref l4, .ref l5, .ref l6, .ref l7, .ref l8, .int 10, .int 100, .int 50, .int 0, .int 0]))]) (w1 := [(x, .inr (21, [.ref s0, .int 1]))]) (tr := []) (t1 := []) hP hD hK [0] [1] [] rfl rfl rfl (by decide) (by decide) hk1 hFc ht hvm hB
      generalize H1 = H at hP hS ⊢
      have hP : va_P (dC, dI) vwCl [(s0, .inr (20, [.ref l0, .ref l1, .ref l2, .ref l3, .ref l4, .ref l5, .ref l6, .ref l7, .ref l8, .int 10, .int 100, .int 50, .int 0, .int 0])), (x, .inr (21, [.ref s0, .int 1]))] H := hP
      have hD : va_D A [(s0, .inr (20, [.ref l0, .ref l1, .ref l2, .ref l3, .ref l4, .ref l5, .ref l6, .ref l7, .ref l8, .int 10, .int 100, .int 50, .int 0, .int 0])), (x, .inr (21, [.ref s0, .int 1]))] := hD
      have hK : va_K (dC, dI) vwCl [] s := hK
      refine W.widen (k := 0) (n := 0) (Nat.le_of_ble_eq_true rfl) (Nat.le_of_ble_eq_true rfl) ?_
      refine lv_if_ne (tgt := 95) hx hb dX15_send_59 (by decide) (fun _ => ?_) (fun c9 => absurd c9 (by decide))
      refine lv_iconst (v := 0) hx hb dX15_send_95 (by decide) ?_
      have hP9 := hP.sub (ws' := [(x, .inr (21, [.ref s0, .int 1]))]) [1] rfl
      have hD9 := hD.sub (ws' := [(x, .inr (21, [.ref s0, .int 1]))]) [1] (by decide) rfl
      have hK9 := hK.sub (tys' := []) [] rfl
      refine W.widen (k := 0) (n := 0) (Nat.le_of_ble_eq_true rfl) (Nat.le_of_ble_eq_true rfl) ?_
      exact W.iret (v := 0) hx hb hr (fun t ht hW => ⟨⟨0, (), rfl, rfl, pst_of hP9 hD9 hK9 ht hW⟩, hS.F ht⟩) hS.2.2 dX15_send_96
    · refine lv_iload_n hx hb dX15_send_12 rfl (lv_at hl 1 rfl) ?_
      refine lv_bipush (v := 111) hx hb dX15_send_13 (by decide) ?_
      refine lv_icmp_eq (tgt := 24) hx hb dX15_send_15 (by decide) (fun c_15 => ?_) (fun c_15 => ?_)
      · refine lv_iload_n hx hb dX15_send_24 rfl (lv_at hl 3 rfl) ?_
        refine lv_iconst (v := 1) hx hb dX15_send_25 (by decide) ?_
        refine lv_bipush (v := 99) hx hb dX15_send_26 (by decide) ?_
        have hPc := hP.sub (ws' := []) [] rfl
        have hDc := hD.sub (ws' := []) [] (by decide) rfl
        have hKc := hK.sub (tys' := []) [] rfl
        have hFc := va_free (wc := []) hD hS hA [] rfl
        refine va_calli (va_runS (As := [.int b, .int 1, .int 99]) (rest := []) ⟨hx, hb, hml, hown, hts⟩ (c_rm_isIn_y l dC dI E b 1 99 s.heap.size hla1 hua1) (va_cwS 3 hts gX15_send_X15_isIn rfl rfl rfl (by decide +kernel) ⟨(Nat.le_of_ble_eq_true rfl), (Nat.le_of_ble_eq_true rfl)⟩) ⟨pre_blind, pre_call hPc hDc hKc hFc hE hZ hS⟩ rfl rfl hl.1 rfl (lv_room (Nat.le_of_ble_eq_true rfl)) dX15_send_28 ⟨(Nat.le_of_ble_eq_true rfl), (Nat.le_of_ble_eq_true rfl)⟩) hS (fun q _ h => hFc q h) hFc (fun r u t H1 locs1 ht hvm hw hB hz1 hk1 hS => ?_)
        have hw9 : r = 1 := hw
        rw [hw9]
        obtain ⟨hP, hD, hK⟩ := pst_join (wc := []) (wr := [(x, .inr (21, [.ref s0, .int th])), (s0, .inr (20, [.ref l0, .ref l1, .ref l2, .ref l3, .ref l4, .ref l5, .ref l6, .ref l7, .ref l8, .int 10, .int 100, .int 50, .int 0, .int 0]))]) (w1 := []) (tr := []) (t1 := []) hP hD hK [] [0, 1] [] rfl rfl rfl (by decide) (by decide) hk1 hFc ht hvm hB
        generalize H1 = H at hP hS ⊢
        have hP : va_P (dC, dI) vwCl [(x, .inr (21, [.ref s0, .int th])), (s0, .inr (20, [.ref l0, .ref l1, .ref l2, .ref l3, .ref l4, .ref l5, .ref l6, .ref l7, .ref l8, .int 10, .int 100, .int 50, .int 0, .int 0]))] H := hP
        have hD : va_D A [(x, .inr (21, [.ref s0, .int th])), (s0, .inr (20, [.ref l0, .ref l1, .ref l2, .ref l3, .ref l4, .ref l5, .ref l6, .ref l7, .ref l8, .int 10, .int 100, .int 50, .int 0, .int 0]))] := hD
        have hK : va_K (dC, dI) vwCl [] s := hK
        refine W.widen (k := 0) (n := 0) (Nat.le_of_ble_eq_true rfl) (Nat.le_of_ble_eq_true rfl) ?_
        refine lv_if_eq (tgt := 49) hx hb dX15_send_31 (by decide) (fun c9 => absurd c9 (by decide)) (fun _ => ?_)
        refine lv_iload hx hb dX15_send_34 (lv_at hl 4 rfl) ?_
        refine lv_iconst (v := 0) hx hb dX15_send_36 (by decide) ?_
        refine lv_bipush (v := 99) hx hb dX15_send_37 (by decide) ?_
        have hPc := hP.sub (ws' := []) [] rfl
        have hDc := hD.sub (ws' := []) [] (by decide) rfl
        have hKc := hK.sub (tys' := []) [] rfl
        have hFc := va_free (wc := []) hD hS hA [] rfl
        refine va_calli (va_runS (As := [.int c4, .int 0, .int 99]) (rest := []) ⟨hx, hb, hml, hown, hts⟩ (c_rm_isIn_n l dC dI E c4 0 99 H.size h) (va_cwS 3 hts gX15_send_X15_isIn rfl rfl rfl (by decide +kernel) ⟨(Nat.le_of_ble_eq_true rfl), (Nat.le_of_ble_eq_true rfl)⟩) ⟨pre_blind, pre_call hPc hDc hKc hFc hE hZ hS⟩ rfl rfl hl.1 rfl (lv_room (Nat.le_of_ble_eq_true rfl)) dX15_send_39 ⟨(Nat.le_of_ble_eq_true rfl), (Nat.le_of_ble_eq_true rfl)⟩) hS (fun q _ h => hFc q h) hFc (fun r u t H1 locs1 ht hvm hw hB hz1 hk1 hS => ?_)
        have hw9 : r = 0 := hw
        rw [hw9]
        obtain ⟨hP, hD, hK⟩ := pst_join (wc := []) (wr := [(x, .inr (21, [.ref s0, .int th])), (s0, .inr (20, [.ref l0, .ref l1, .ref l2, .ref l3, .ref l4, .ref l5, .ref l6, .ref l7, .ref l8, .int 10, .int 100, .int 50, .int 0, .int 0]))]) (w1 := []) (tr := []) (t1 := []) hP hD hK [] [0, 1] [] rfl rfl rfl (by decide) (by decide) hk1 hFc ht hvm hB
        generalize H1 = H at hP hS ⊢
        have hP : va_P (dC, dI) vwCl [(x, .inr (21, [.ref s0, .int th])), (s0, .inr (20, [.ref l0, .ref l1, .ref l2, .ref l3, .ref l4, .ref l5, .ref l6, .ref l7, .ref l8, .int 10, .int 100, .int 50, .int 0, .int 0]))] H := hP
        have hD : va_D A [(x, .inr (21, [.ref s0, .int th])), (s0, .inr (20, [.ref l0, .ref l1, .ref l2, .ref l3, .ref l4, .ref l5, .ref l6, .ref l7, .ref l8, .int 10, .int 100, .int 50, .int 0, .int 0]))] := hD
        have hK : va_K (dC, dI) vwCl [] s := hK
        refine W.widen (k := 0) (n := 0) (Nat.le_of_ble_eq_true rfl) (Nat.le_of_ble_eq_true rfl) ?_
        refine lv_if_eq (tgt := 49) hx hb dX15_send_42 (by decide) (fun _ => ?_) (fun c9 => absurd (by decide) c9)
        refine lv_iconst (v := 0) hx hb dX15_send_49 (by decide) ?_
        refine lv_istore (lv' := [(5, .int 0), (0, .ref x), (1, .int k), (2, .int a), (3, .int b), (4, .int c4)]) hx hb dX15_send_50 hl (by decide) rfl (fun ls hl => ?_)
        refine lv_aload_n hx hb dX15_send_52 rfl (lv_at hl 1 rfl) ?_
        refine lv_iload hx hb dX15_send_53 (lv_at hl 0 rfl) ?_
        refine lv_iconst (v := 1) hx hb dX15_send_55 (by decide) ?_
        have hPc := hP.sub (ws' := [(x, .inr (21, [.ref s0, .int th]))]) [0] rfl
        have hDc := hD.sub (ws' := [(x, .inr (21, [.ref s0, .int th]))]) [0] (by decide) rfl
        have hKc := hK.sub (tys' := []) [] rfl
        have hFc := va_free (wc := [(x, .inr (21, [.ref s0, .int th]))]) hD hS hA [0] rfl
        refine va_calli (va_runV (As := [.int 0, .int 1]) (rest := []) ⟨hx, hb, hml, hown, hts⟩ (c_rm_no_0 l dC dI E x s0 th 1 H.size) (cwV 2 hts gX15_send_X15_no rfl rfl rfl (by decide +kernel) ⟨(Nat.le_of_ble_eq_true rfl), (Nat.le_of_ble_eq_true rfl)⟩) ⟨pre_blind, va_recv hKc hPc (ci := 21) (q0 := 0) rfl rfl, pre_call hPc hDc hKc hFc hE hZ hS⟩ rfl rfl hl.1 rfl (lv_room (Nat.le_of_ble_eq_true rfl)) dX15_send_56 ⟨(Nat.le_of_ble_eq_true rfl), (Nat.le_of_ble_eq_true rfl)⟩) hS (fun q _ h => hFc q h) hFc (fun r u t H1 locs1 ht hvm hw hB hz1 hk1 hS => ?_)
        have hw9 : r = 1 := hw
        rw [hw9]
        obtain ⟨hP, hD, hK⟩ := pst_join (wc := [(x, .inr (21, [.ref s0, .int th]))]) (wr := [(s0, .inr (20, [.ref l0, .ref l1, .ref l2, .ref l3, .ref l4, .ref l5, .ref l6, .ref l7, .ref l8, .int 10, .int 100, .int 50, .int 0, .int 0]))]) (w1 := [(x, .inr (21, [.ref s0, .int 1]))]) (tr := []) (t1 := []) hP hD hK [0] [1] [] rfl rfl rfl (by decide) (by decide) hk1 hFc ht hvm hB
        generalize H1 = H at hP hS ⊢
        have hP : va_P (dC, dI) vwCl [(s0, .inr (20, [.ref l0, .ref l1, .ref l2, .ref l3, .ref l4, .ref l5, .ref l6, .ref l7, .ref l8, .int 10, .int 100, .int 50, .int 0, .int 0])), (x, .inr (21, [.ref s0, .int 1]))] H := hP
        have hD : va_D A [(s0, .inr (20, [.ref l0, .ref l1, .ref l2, .ref l3, .ref l4, .ref l5, .ref l6, .ref l7, .ref l8, .int 10, .int 100, .int 50, .int 0, .int 0])), (x, .inr (21, [.ref s0, .int 1]))] := hD
        have hK : va_K (dC, dI) vwCl [] s := hK
        refine W.widen (k := 0) (n := 0) (Nat.le_of_ble_eq_true rfl) (Nat.le_of_ble_eq_true rfl) ?_
        refine lv_if_ne (tgt := 95) hx hb dX15_send_59 (by decide) (fun _ => ?_) (fun c9 => absurd c9 (by decide))
        refine lv_iconst (v := 0) hx hb dX15_send_95 (by decide) ?_
        have hP9 := hP.sub (ws' := [(x, .inr (21, [.ref s0, .int 1]))]) [1] rfl
        have hD9 := hD.sub (ws' := [(x, .inr (21, [.ref s0, .int 1]))]) [1] (by decide) rfl
        have hK9 := hK.sub (tys' := []) [] rfl
        refine W.widen (k := 0) (n := 0) (Nat.le_of_ble_eq_true rfl) (Nat.le_of_ble_eq_true rfl) ?_
        exact W.iret (v := 0) hx hb hr (fun t ht hW => ⟨⟨0, (), rfl, rfl, pst_of hP9 hD9 hK9 ht hW⟩, hS.F ht⟩) hS.2.2 dX15_send_96
      · refine lv_iload_n hx hb dX15_send_18 rfl (lv_at hl 1 rfl) ?_
        refine lv_bipush (v := 104) hx hb dX15_send_19 (by decide) ?_
        refine lv_icmp_ne (tgt := 49) hx hb dX15_send_21 (by decide) (fun c9 => (hk.elim c_1 (fun h => h.elim c_8 (fun h => h.elim c_15 c9))).elim) (fun c_22 => ?_)
        refine lv_iload_n hx hb dX15_send_24 rfl (lv_at hl 3 rfl) ?_
        refine lv_iconst (v := 1) hx hb dX15_send_25 (by decide) ?_
        refine lv_bipush (v := 99) hx hb dX15_send_26 (by decide) ?_
        have hPc := hP.sub (ws' := []) [] rfl
        have hDc := hD.sub (ws' := []) [] (by decide) rfl
        have hKc := hK.sub (tys' := []) [] rfl
        have hFc := va_free (wc := []) hD hS hA [] rfl
        refine va_calli (va_runS (As := [.int b, .int 1, .int 99]) (rest := []) ⟨hx, hb, hml, hown, hts⟩ (c_rm_isIn_y l dC dI E b 1 99 s.heap.size hla1 hua1) (va_cwS 3 hts gX15_send_X15_isIn rfl rfl rfl (by decide +kernel) ⟨(Nat.le_of_ble_eq_true rfl), (Nat.le_of_ble_eq_true rfl)⟩) ⟨pre_blind, pre_call hPc hDc hKc hFc hE hZ hS⟩ rfl rfl hl.1 rfl (lv_room (Nat.le_of_ble_eq_true rfl)) dX15_send_28 ⟨(Nat.le_of_ble_eq_true rfl), (Nat.le_of_ble_eq_true rfl)⟩) hS (fun q _ h => hFc q h) hFc (fun r u t H1 locs1 ht hvm hw hB hz1 hk1 hS => ?_)
        have hw9 : r = 1 := hw
        rw [hw9]
        obtain ⟨hP, hD, hK⟩ := pst_join (wc := []) (wr := [(x, .inr (21, [.ref s0, .int th])), (s0, .inr (20, [.ref l0, .ref l1, .ref l2, .ref l3, .ref l4, .ref l5, .ref l6, .ref l7, .ref l8, .int 10, .int 100, .int 50, .int 0, .int 0]))]) (w1 := []) (tr := []) (t1 := []) hP hD hK [] [0, 1] [] rfl rfl rfl (by decide) (by decide) hk1 hFc ht hvm hB
        generalize H1 = H at hP hS ⊢
        have hP : va_P (dC, dI) vwCl [(x, .inr (21, [.ref s0, .int th])), (s0, .inr (20, [.ref l0, .ref l1, .ref l2, .ref l3, .ref l4, .ref l5, .ref l6, .ref l7, .ref l8, .int 10, .int 100, .int 50, .int 0, .int 0]))] H := hP
        have hD : va_D A [(x, .inr (21, [.ref s0, .int th])), (s0, .inr (20, [.ref l0, .ref l1, .ref l2, .ref l3, .ref l4, .ref l5, .ref l6, .ref l7, .ref l8, .int 10, .int 100, .int 50, .int 0, .int 0]))] := hD
        have hK : va_K (dC, dI) vwCl [] s := hK
        refine W.widen (k := 0) (n := 0) (Nat.le_of_ble_eq_true rfl) (Nat.le_of_ble_eq_true rfl) ?_
        refine lv_if_eq (tgt := 49) hx hb dX15_send_31 (by decide) (fun c9 => absurd c9 (by decide)) (fun _ => ?_)
        refine lv_iload hx hb dX15_send_34 (lv_at hl 4 rfl) ?_
        refine lv_iconst (v := 0) hx hb dX15_send_36 (by decide) ?_
        refine lv_bipush (v := 99) hx hb dX15_send_37 (by decide) ?_
        have hPc := hP.sub (ws' := []) [] rfl
        have hDc := hD.sub (ws' := []) [] (by decide) rfl
        have hKc := hK.sub (tys' := []) [] rfl
        have hFc := va_free (wc := []) hD hS hA [] rfl
        refine va_calli (va_runS (As := [.int c4, .int 0, .int 99]) (rest := []) ⟨hx, hb, hml, hown, hts⟩ (c_rm_isIn_n l dC dI E c4 0 99 H.size h) (va_cwS 3 hts gX15_send_X15_isIn rfl rfl rfl (by decide +kernel) ⟨(Nat.le_of_ble_eq_true rfl), (Nat.le_of_ble_eq_true rfl)⟩) ⟨pre_blind, pre_call hPc hDc hKc hFc hE hZ hS⟩ rfl rfl hl.1 rfl (lv_room (Nat.le_of_ble_eq_true rfl)) dX15_send_39 ⟨(Nat.le_of_ble_eq_true rfl), (Nat.le_of_ble_eq_true rfl)⟩) hS (fun q _ h => hFc q h) hFc (fun r u t H1 locs1 ht hvm hw hB hz1 hk1 hS => ?_)
        have hw9 : r = 0 := hw
        rw [hw9]
        obtain ⟨hP, hD, hK⟩ := pst_join (wc := []) (wr := [(x, .inr (21, [.ref s0, .int th])), (s0, .inr (20, [.ref l0, .ref l1, .ref l2, .ref l3, .ref l4, .ref l5, .ref l6, .ref l7, .ref l8, .int 10, .int 100, .int 50, .int 0, .int 0]))]) (w1 := []) (tr := []) (t1 := []) hP hD hK [] [0, 1] [] rfl rfl rfl (by decide) (by decide) hk1 hFc ht hvm hB
        generalize H1 = H at hP hS ⊢
        have hP : va_P (dC, dI) vwCl [(x, .inr (21, [.ref s0, .int th])), (s0, .inr (20, [.ref l0, .ref l1, .ref l2, .ref l3, .ref l4, .ref l5, .ref l6, .ref l7, .ref l8, .int 10, .int 100, .int 50, .int 0, .int 0]))] H := hP
        have hD : va_D A [(x, .inr (21, [.ref s0, .int th])), (s0, .inr (20, [.ref l0, .ref l1, .ref l2, .ref l3, .ref l4, .ref l5, .ref l6, .ref l7, .ref l8, .int 10, .int 100, .int 50, .int 0, .int 0]))] := hD
        have hK : va_K (dC, dI) vwCl [] s := hK
        refine W.widen (k := 0) (n := 0) (Nat.le_of_ble_eq_true rfl) (Nat.le_of_ble_eq_true rfl) ?_
        refine lv_if_eq (tgt := 49) hx hb dX15_send_42 (by decide) (fun _ => ?_) (fun c9 => absurd (by decide) c9)
        refine lv_iconst (v := 0) hx hb dX15_send_49 (by decide) ?_
        refine lv_istore (lv' := [(5, .int 0), (0, .ref x), (1, .int k), (2, .int a), (3, .int b), (4, .int c4)]) hx hb dX15_send_50 hl (by decide) rfl (fun ls hl => ?_)
        refine lv_aload_n hx hb dX15_send_52 rfl (lv_at hl 1 rfl) ?_
        refine lv_iload hx hb dX15_send_53 (lv_at hl 0 rfl) ?_
        refine lv_iconst (v := 1) hx hb dX15_send_55 (by decide) ?_
        have hPc := hP.sub (ws' := [(x, .inr (21, [.ref s0, .int th]))]) [0] rfl
        have hDc := hD.sub (ws' := [(x, .inr (21, [.ref s0, .int th]))]) [0] (by decide) rfl
        have hKc := hK.sub (tys' := []) [] rfl
        have hFc := va_free (wc := [(x, .inr (21, [.ref s0, .int th]))]) hD hS hA [0] rfl
        refine va_calli (va_runV (As := [.int 0, .int 1]) (rest := []) ⟨hx, hb, hml, hown, hts⟩ (c_rm_no_0 l dC dI E x s0 th 1 H.size) (cwV 2 hts gX15_send_X15_no rfl rfl rfl (by decide +kernel) ⟨(Nat.le_of_ble_eq_true rfl), (Nat.le_of_ble_eq_true rfl)⟩) ⟨pre_blind, va_recv hKc hPc (ci := 21) (q0 := 0) rfl rfl, pre_call hPc hDc hKc hFc hE hZ hS⟩ rfl rfl hl.1 rfl (lv_room (Nat.le_of_ble_eq_true rfl)) dX15_send_56 ⟨(Nat.le_of_ble_eq_true rfl), (Nat.le_of_ble_eq_true rfl)⟩) hS (fun q _ h => hFc q h) hFc (fun r u t H1 locs1 ht hvm hw hB hz1 hk1 hS => ?_)
        have hw9 : r = 1 := hw
        rw [hw9]
        obtain ⟨hP, hD, hK⟩ := pst_join (wc := [(x, .inr (21, [.ref s0, .int th]))]) (wr := [(s0, .inr (20, [.ref l0, .ref l1, .ref l2, .ref l3, .ref l4, .ref l5, .ref l6, .ref l7, .ref l8, .int 10, .int 100, .int 50, .int 0, .int 0]))]) (w1 := [(x, .inr (21, [.ref s0, .int 1]))]) (tr := []) (t1 := []) hP hD hK [0] [1] [] rfl rfl rfl (by decide) (by decide) hk1 hFc ht hvm hB
        generalize H1 = H at hP hS ⊢
        have hP : va_P (dC, dI) vwCl [(s0, .inr (20, [.ref l0, .ref l1, .ref l2, .ref l3, .ref l4, .ref l5, .ref l6, .ref l7, .ref l8, .int 10, .int 100, .int 50, .int 0, .int 0])), (x, .inr (21, [.ref s0, .int 1]))] H := hP
        have hD : va_D A [(s0, .inr (20, [.ref l0, .ref l1, .ref l2, .ref l3, .ref l4, .ref l5, .ref l6, .ref l7, .ref l8, .int 10, .int 100, .int 50, .int 0, .int 0])), (x, .inr (21, [.ref s0, .int 1]))] := hD
        have hK : va_K (dC, dI) vwCl [] s := hK
        refine W.widen (k := 0) (n := 0) (Nat.le_of_ble_eq_true rfl) (Nat.le_of_ble_eq_true rfl) ?_
        refine lv_if_ne (tgt := 95) hx hb dX15_send_59 (by decide) (fun _ => ?_) (fun c9 => absurd c9 (by decide))
        refine lv_iconst (v := 0) hx hb dX15_send_95 (by decide) ?_
        have hP9 := hP.sub (ws' := [(x, .inr (21, [.ref s0, .int 1]))]) [1] rfl
        have hD9 := hD.sub (ws' := [(x, .inr (21, [.ref s0, .int 1]))]) [1] (by decide) rfl
        have hK9 := hK.sub (tys' := []) [] rfl
        refine W.widen (k := 0) (n := 0) (Nat.le_of_ble_eq_true rfl) (Nat.le_of_ble_eq_true rfl) ?_
        exact W.iret (v := 0) hx hb hr (fun t ht hW => ⟨⟨0, (), rfl, rfl, pst_of hP9 hD9 hK9 ht hW⟩, hS.F ht⟩) hS.2.2 dX15_send_96

set_option maxHeartbeats 4000000 in
set_option maxRecDepth 100000 in
theorem c_rm_burn (l : Launch) (dC : Nat → ClassId) (dI : Nat → Nat → Nat) (E : Nat → Nat) (x : Nat) (s0 : Nat) (l0 : Nat) (l1 : Nat) (l2 : Nat) (l3 : Nat) (l4 : Nat) (l5 : Nat) (l6 : Nat) (l7 : Nat) (l8 : Nat) (th : Int32) (a : Int32) (b : Int32) (sz : Nat) : Met l yX15_burn wsX15_burn ({ frames := 2, cells := 0, slots := 0, locals := 43 }) (va_Pc [.ref x, .int a, .int b] (pre dC dI E [(x, .inr (21, [.ref s0, .int th])), (s0, .inr (20, [.ref l0, .ref l1, .ref l2, .ref l3, .ref l4, .ref l5, .ref l6, .ref l7, .ref l8, .int 10, .int 100, .int 50, .int 0, .int 0])), (l6, .inr (5, [.int 0, .ref (E 0), .int 0]))] [] sz)) (va_Qi (fun (r : Int32) (_ : Unit) => r = 0) (fun _ t => pst dC dI (va_A [(x, .inr (21, [.ref s0, .int th])), (s0, .inr (20, [.ref l0, .ref l1, .ref l2, .ref l3, .ref l4, .ref l5, .ref l6, .ref l7, .ref l8, .int 10, .int 100, .int 50, .int 0, .int 0])), (l6, .inr (5, [.int 0, .ref (E 0), .int 0]))] sz) [(x, .inr (21, [.ref s0, .int 1]))] [] t) (va_A [(x, .inr (21, [.ref s0, .int th])), (s0, .inr (20, [.ref l0, .ref l1, .ref l2, .ref l3, .ref l4, .ref l5, .ref l6, .ref l7, .ref l8, .int 10, .int 100, .int 50, .int 0, .int 0])), (l6, .inr (5, [.int 0, .ref (E 0), .int 0]))] sz)) 0 0 (va_A [(x, .inr (21, [.ref s0, .int th])), (s0, .inr (20, [.ref l0, .ref l1, .ref l2, .ref l3, .ref l4, .ref l5, .ref l6, .ref l7, .ref l8, .int 10, .int 100, .int 50, .int 0, .int 0])), (l6, .inr (5, [.int 0, .ref (E 0), .int 0]))] sz) := by
  refine Met.ofW (cc := cX15_burn) (maxL := 4) (ret := (some .int)) (by decide) rfl ?_
  intro p e s m args below meth c s₁ B hml hv
  obtain ⟨rfl, hsz, hP, hK, hD0, hE, hZ0⟩ := hv
  have hx := B.exec
  have hb := B.bytes
  have hr := B.returns
  have hts := atoms_spec (ws := wsX15_burn) B.pre
  have hown : s.vm.findClass RX15 = some m.cls := findClass_of_methodNamed B.named
  have hlocks := B.notSynchronized
  subst hsz
  have hD := hD0.self (sz := s.heap.size)
  generalize hAe : va_A [(x, .inr (21, [.ref s0, .int th])), (s0, .inr (20, [.ref l0, .ref l1, .ref l2, .ref l3, .ref l4, .ref l5, .ref l6, .ref l7, .ref l8, .int 10, .int 100, .int 50, .int 0, .int 0])), (l6, .inr (5, [.int 0, .ref (E 0), .int 0]))] s.heap.size = A at hD hZ0 ⊢
  have hZ := hZ0
  have hA : ∀ q : Nat, s.heap.size ≤ q → A q := fun q h => by rw [← hAe]; exact Or.inr h
  have hS : va_S A s.heap s.heap [] := va_S.rf
  have hP : va_P (dC, dI) vwCl [(x, .inr (21, [.ref s0, .int th])), (s0, .inr (20, [.ref l0, .ref l1, .ref l2, .ref l3, .ref l4, .ref l5, .ref l6, .ref l7, .ref l8, .int 10, .int 100, .int 50, .int 0, .int 0])), (l6, .inr (5, [.int 0, .ref (E 0), .int 0]))] s.heap := hP
  have hl := lv_entry ([.ref x, .int a, .int b]) (n := 4) (Nat.le_of_ble_eq_true rfl)
  rw [lg_entry_eq]
  generalize (lg_sl ([.ref x, .int a, .int b]) ++ List.replicate (4 - (lg_sl ([.ref x, .int a, .int b])).length) Slot.unset).toArray = ls at hl ⊢
  have hl : lv_has ls 4 [(0, .ref x), (1, .int a), (2, .int b)] := hl
  refine lv_aload_n hx hb dX15_burn_0 rfl (lv_at hl 0 rfl) ?_
  refine lv_iload_n hx hb dX15_burn_1 rfl (lv_at hl 1 rfl) ?_
  have hPc := hP.sub (ws' := [(x, .inr (21, [.ref s0, .int th])), (s0, .inr (20, [.ref l0, .ref l1, .ref l2, .ref l3, .ref l4, .ref l5, .ref l6, .ref l7, .ref l8, .int 10, .int 100, .int 50, .int 0, .int 0])), (l6, .inr (5, [.int 0, .ref (E 0), .int 0]))]) [0, 1, 2] rfl
  have hDc := hD.sub (ws' := [(x, .inr (21, [.ref s0, .int th])), (s0, .inr (20, [.ref l0, .ref l1, .ref l2, .ref l3, .ref l4, .ref l5, .ref l6, .ref l7, .ref l8, .int 10, .int 100, .int 50, .int 0, .int 0])), (l6, .inr (5, [.int 0, .ref (E 0), .int 0]))]) [0, 1, 2] (by decide) rfl
  have hKc := hK.sub (tys' := []) [] rfl
  have hFc := va_free (wc := [(x, .inr (21, [.ref s0, .int th])), (s0, .inr (20, [.ref l0, .ref l1, .ref l2, .ref l3, .ref l4, .ref l5, .ref l6, .ref l7, .ref l8, .int 10, .int 100, .int 50, .int 0, .int 0])), (l6, .inr (5, [.int 0, .ref (E 0), .int 0]))]) hD hS hA [0, 1, 2] rfl
  refine va_calli (va_runV (As := [.int a]) (rest := []) ⟨hx, hb, hml, hown, hts⟩ (c_rm_noShip l dC dI E x s0 l0 l1 l2 l3 l4 l5 l6 l7 l8 th a s.heap.size) (cwV 1 hts gX15_burn_X15_noShip rfl rfl rfl (by decide +kernel) ⟨(Nat.le_of_ble_eq_true rfl), (Nat.le_of_ble_eq_true rfl)⟩) ⟨pre_blind, va_recv hKc hPc (ci := 21) (q0 := 0) rfl rfl, pre_call hPc hDc hKc hFc hE hZ hS⟩ rfl rfl hl.1 rfl (lv_room (Nat.le_of_ble_eq_true rfl)) dX15_burn_2 ⟨(Nat.le_of_ble_eq_true rfl), (Nat.le_of_ble_eq_true rfl)⟩) hS (fun q _ h => hFc q h) hFc (fun r u t H1 locs1 ht hvm hw hB hz1 hk1 hS => ?_)
  have hw9 : r = 1 := hw
  rw [hw9]
  obtain ⟨hP, hD, hK⟩ := pst_join (wc := [(x, .inr (21, [.ref s0, .int th])), (s0, .inr (20, [.ref l0, .ref l1, .ref l2, .ref l3, .ref l4, .ref l5, .ref l6, .ref l7, .ref l8, .int 10, .int 100, .int 50, .int 0, .int 0])), (l6, .inr (5, [.int 0, .ref (E 0), .int 0]))]) (wr := []) (w1 := [(x, .inr (21, [.ref s0, .int 1])), (s0, .inr (20, [.ref l0, .ref l1, .ref l2, .ref l3, .ref l4, .ref l5, .ref l6, .ref l7, .ref l8, .int 10, .int 100, .int 50, .int 0, .int 0])), (l6, .inr (5, [.int 0, .ref (E 0), .int 0]))]) (tr := []) (t1 := []) hP hD hK [0, 1, 2] [] [] rfl rfl rfl (by decide) (by decide) hk1 hFc ht hvm hB
  generalize H1 = H at hP hS ⊢
  have hP : va_P (dC, dI) vwCl [(x, .inr (21, [.ref s0, .int 1])), (s0, .inr (20, [.ref l0, .ref l1, .ref l2, .ref l3, .ref l4, .ref l5, .ref l6, .ref l7, .ref l8, .int 10, .int 100, .int 50, .int 0, .int 0])), (l6, .inr (5, [.int 0, .ref (E 0), .int 0]))] H := hP
  have hD : va_D A [(x, .inr (21, [.ref s0, .int 1])), (s0, .inr (20, [.ref l0, .ref l1, .ref l2, .ref l3, .ref l4, .ref l5, .ref l6, .ref l7, .ref l8, .int 10, .int 100, .int 50, .int 0, .int 0])), (l6, .inr (5, [.int 0, .ref (E 0), .int 0]))] := hD
  have hK : va_K (dC, dI) vwCl [] s := hK
  refine W.widen (k := 0) (n := 0) (Nat.le_of_ble_eq_true rfl) (Nat.le_of_ble_eq_true rfl) ?_
  refine lv_if_ne (tgt := 24) hx hb dX15_burn_5 (by decide) (fun _ => ?_) (fun c9 => absurd c9 (by decide))
  refine lv_iconst (v := 0) hx hb dX15_burn_24 (by decide) ?_
  have hP9 := hP.sub (ws' := [(x, .inr (21, [.ref s0, .int 1]))]) [0] rfl
  have hD9 := hD.sub (ws' := [(x, .inr (21, [.ref s0, .int 1]))]) [0] (by decide) rfl
  have hK9 := hK.sub (tys' := []) [] rfl
  refine W.widen (k := 0) (n := 0) (Nat.le_of_ble_eq_true rfl) (Nat.le_of_ble_eq_true rfl) ?_
  exact W.iret (v := 0) hx hb hr (fun t ht hW => ⟨⟨0, (), rfl, rfl, pst_of hP9 hD9 hK9 ht hW⟩, hS.F ht⟩) hS.2.2 dX15_burn_25

set_option maxHeartbeats 4000000 in
set_option maxRecDepth 100000 in
theorem c_rm_pass_n (l : Launch) (dC : Nat → ClassId) (dI : Nat → Nat → Nat) (E : Nat → Nat) (x : Nat) (s0 : Nat) (l0 : Nat) (l1 : Nat) (l2 : Nat) (l3 : Nat) (l4 : Nat) (l5 : Nat) (l6 : Nat) (l7 : Nat) (l8 : Nat) (th : Int32) (a : Int32) (sz : Nat) (h : ¬ (¬ a < 1 ∧ ¬ 90 < a)) : Met l yX15_pass wsX15_pass ({ frames := 1, cells := 0, slots := 0, locals := 22 }) (va_Pc [.ref x, .int a] (pre dC dI E [(x, .inr (21, [.ref s0, .int th])), (s0, .inr (20, [.ref l0, .ref l1, .ref l2, .ref l3, .ref l4, .ref l5, .ref l6, .ref l7, .ref l8, .int 10, .int 100, .int 50, .int 0, .int 0]))] [] sz)) (va_Qi (fun (r : Int32) (_ : Unit) => r = 0) (fun _ t => pst dC dI (va_A [(x, .inr (21, [.ref s0, .int th])), (s0, .inr (20, [.ref l0, .ref l1, .ref l2, .ref l3, .ref l4, .ref l5, .ref l6, .ref l7, .ref l8, .int 10, .int 100, .int 50, .int 0, .int 0]))] sz) [(x, .inr (21, [.ref s0, .int 1]))] [] t) (va_A [(x, .inr (21, [.ref s0, .int th])), (s0, .inr (20, [.ref l0, .ref l1, .ref l2, .ref l3, .ref l4, .ref l5, .ref l6, .ref l7, .ref l8, .int 10, .int 100, .int 50, .int 0, .int 0]))] sz)) 0 0 (va_A [(x, .inr (21, [.ref s0, .int th])), (s0, .inr (20, [.ref l0, .ref l1, .ref l2, .ref l3, .ref l4, .ref l5, .ref l6, .ref l7, .ref l8, .int 10, .int 100, .int 50, .int 0, .int 0]))] sz) := by
  refine Met.ofW (cc := cX15_pass) (maxL := 3) (ret := (some .int)) (by decide) rfl ?_
  intro p e s m args below meth c s₁ B hml hv
  obtain ⟨rfl, hsz, hP, hK, hD0, hE, hZ0⟩ := hv
  have hx := B.exec
  have hb := B.bytes
  have hr := B.returns
  have hts := atoms_spec (ws := wsX15_pass) B.pre
  have hown : s.vm.findClass RX15 = some m.cls := findClass_of_methodNamed B.named
  have hlocks := B.notSynchronized
  subst hsz
  have hD := hD0.self (sz := s.heap.size)
  generalize hAe : va_A [(x, .inr (21, [.ref s0, .int th])), (s0, .inr (20, [.ref l0, .ref l1, .ref l2, .ref l3, .ref l4, .ref l5, .ref l6, .ref l7, .ref l8, .int 10, .int 100, .int 50, .int 0, .int 0]))] s.heap.size = A at hD hZ0 ⊢
  have hZ := hZ0
  have hA : ∀ q : Nat, s.heap.size ≤ q → A q := fun q h => by rw [← hAe]; exact Or.inr h
  have hS : va_S A s.heap s.heap [] := va_S.rf
  have hP : va_P (dC, dI) vwCl [(x, .inr (21, [.ref s0, .int th])), (s0, .inr (20, [.ref l0, .ref l1, .ref l2, .ref l3, .ref l4, .ref l5, .ref l6, .ref l7, .ref l8, .int 10, .int 100, .int 50, .int 0, .int 0]))] s.heap := hP
  have hl := lv_entry ([.ref x, .int a]) (n := 3) (Nat.le_of_ble_eq_true rfl)
  rw [lg_entry_eq]
  generalize (lg_sl ([.ref x, .int a]) ++ List.replicate (3 - (lg_sl ([.ref x, .int a])).length) Slot.unset).toArray = ls at hl ⊢
  have hl : lv_has ls 3 [(0, .ref x), (1, .int a)] := hl
  refine lv_aload_n hx hb dX15_pass_0 rfl (lv_at hl 0 rfl) ?_
  refine lv_iload_n hx hb dX15_pass_1 rfl (lv_at hl 1 rfl) ?_
  refine lv_iconst (v := 1) hx hb dX15_pass_2 (by decide) ?_
  refine lv_bipush (v := 90) hx hb dX15_pass_3 (by decide) ?_
  have hPc := hP.sub (ws' := []) [] rfl
  have hDc := hD.sub (ws' := []) [] (by decide) rfl
  have hKc := hK.sub (tys' := []) [] rfl
  have hFc := va_free (wc := []) hD hS hA [] rfl
  refine va_calli (va_runS (As := [.int a, .int 1, .int 90]) (rest := [.ref x]) ⟨hx, hb, hml, hown, hts⟩ (c_rm_isIn_n l dC dI E a 1 90 s.heap.size h) (va_cwS 3 hts gX15_pass_X15_isIn rfl rfl rfl (by decide +kernel) ⟨(Nat.le_of_ble_eq_true rfl), (Nat.le_of_ble_eq_true rfl)⟩) ⟨pre_blind, pre_call hPc hDc hKc hFc hE hZ hS⟩ rfl rfl hl.1 rfl (lv_room (Nat.le_of_ble_eq_true rfl)) dX15_pass_5 ⟨(Nat.le_of_ble_eq_true rfl), (Nat.le_of_ble_eq_true rfl)⟩) hS (fun q _ h => hFc q h) hFc (fun r u t H1 locs1 ht hvm hw hB hz1 hk1 hS => ?_)
  have hw9 : r = 0 := hw
  rw [hw9]
  obtain ⟨hP, hD, hK⟩ := pst_join (wc := []) (wr := [(x, .inr (21, [.ref s0, .int th])), (s0, .inr (20, [.ref l0, .ref l1, .ref l2, .ref l3, .ref l4, .ref l5, .ref l6, .ref l7, .ref l8, .int 10, .int 100, .int 50, .int 0, .int 0]))]) (w1 := []) (tr := []) (t1 := []) hP hD hK [] [0, 1] [] rfl rfl rfl (by decide) (by decide) hk1 hFc ht hvm hB
  generalize H1 = H at hP hS ⊢
  have hP : va_P (dC, dI) vwCl [(x, .inr (21, [.ref s0, .int th])), (s0, .inr (20, [.ref l0, .ref l1, .ref l2, .ref l3, .ref l4, .ref l5, .ref l6, .ref l7, .ref l8, .int 10, .int 100, .int 50, .int 0, .int 0]))] H := hP
  have hD : va_D A [(x, .inr (21, [.ref s0, .int th])), (s0, .inr (20, [.ref l0, .ref l1, .ref l2, .ref l3, .ref l4, .ref l5, .ref l6, .ref l7, .ref l8, .int 10, .int 100, .int 50, .int 0, .int 0]))] := hD
  have hK : va_K (dC, dI) vwCl [] s := hK
  refine W.widen (k := 0) (n := 0) (Nat.le_of_ble_eq_true rfl) (Nat.le_of_ble_eq_true rfl) ?_
  refine lv_iconst (v := 1) hx hb dX15_pass_8 (by decide) ?_
  have hPc := hP.sub (ws' := [(x, .inr (21, [.ref s0, .int th]))]) [0] rfl
  have hDc := hD.sub (ws' := [(x, .inr (21, [.ref s0, .int th]))]) [0] (by decide) rfl
  have hKc := hK.sub (tys' := []) [] rfl
  have hFc := va_free (wc := [(x, .inr (21, [.ref s0, .int th]))]) hD hS hA [0] rfl
  refine va_calli (va_runV (As := [.int 0, .int 1]) (rest := []) ⟨hx, hb, hml, hown, hts⟩ (c_rm_no_0 l dC dI E x s0 th 1 H.size) (cwV 2 hts gX15_pass_X15_no rfl rfl rfl (by decide +kernel) ⟨(Nat.le_of_ble_eq_true rfl), (Nat.le_of_ble_eq_true rfl)⟩) ⟨pre_blind, va_recv hKc hPc (ci := 21) (q0 := 0) rfl rfl, pre_call hPc hDc hKc hFc hE hZ hS⟩ rfl rfl hl.1 rfl (lv_room (Nat.le_of_ble_eq_true rfl)) dX15_pass_9 ⟨(Nat.le_of_ble_eq_true rfl), (Nat.le_of_ble_eq_true rfl)⟩) hS (fun q _ h => hFc q h) hFc (fun r u t H1 locs1 ht hvm hw hB hz1 hk1 hS => ?_)
  have hw9 : r = 1 := hw
  rw [hw9]
  obtain ⟨hP, hD, hK⟩ := pst_join (wc := [(x, .inr (21, [.ref s0, .int th]))]) (wr := [(s0, .inr (20, [.ref l0, .ref l1, .ref l2, .ref l3, .ref l4, .ref l5, .ref l6, .ref l7, .ref l8, .int 10, .int 100, .int 50, .int 0, .int 0]))]) (w1 := [(x, .inr (21, [.ref s0, .int 1]))]) (tr := []) (t1 := []) hP hD hK [0] [1] [] rfl rfl rfl (by decide) (by decide) hk1 hFc ht hvm hB
  generalize H1 = H at hP hS ⊢
  have hP : va_P (dC, dI) vwCl [(s0, .inr (20, [.ref l0, .ref l1, .ref l2, .ref l3, .ref l4, .ref l5, .ref l6, .ref l7, .ref l8, .int 10, .int 100, .int 50, .int 0, .int 0])), (x, .inr (21, [.ref s0, .int 1]))] H := hP
  have hD : va_D A [(s0, .inr (20, [.ref l0, .ref l1, .ref l2, .ref l3, .ref l4, .ref l5, .ref l6, .ref l7, .ref l8, .int 10, .int 100, .int 50, .int 0, .int 0])), (x, .inr (21, [.ref s0, .int 1]))] := hD
  have hK : va_K (dC, dI) vwCl [] s := hK
  refine W.widen (k := 0) (n := 0) (Nat.le_of_ble_eq_true rfl) (Nat.le_of_ble_eq_true rfl) ?_
  refine lv_if_ne (tgt := 43) hx hb dX15_pass_12 (by decide) (fun _ => ?_) (fun c9 => absurd c9 (by decide))
  refine lv_iconst (v := 0) hx hb dX15_pass_43 (by decide) ?_
  have hP9 := hP.sub (ws' := [(x, .inr (21, [.ref s0, .int 1]))]) [1] rfl
  have hD9 := hD.sub (ws' := [(x, .inr (21, [.ref s0, .int 1]))]) [1] (by decide) rfl
  have hK9 := hK.sub (tys' := []) [] rfl
  refine W.widen (k := 0) (n := 0) (Nat.le_of_ble_eq_true rfl) (Nat.le_of_ble_eq_true rfl) ?_
  exact W.iret (v := 0) hx hb hr (fun t ht hW => ⟨⟨0, (), rfl, rfl, pst_of hP9 hD9 hK9 ht hW⟩, hS.F ht⟩) hS.2.2 dX15_pass_44

set_option maxHeartbeats 4000000 in
set_option maxRecDepth 100000 in
theorem c_rm_endSafe (l : Launch) (dC : Nat → ClassId) (dI : Nat → Nat → Nat) (E : Nat → Nat) (x : Nat) (s0 : Nat) (l0 : Nat) (l1 : Nat) (l2 : Nat) (l3 : Nat) (l4 : Nat) (l5 : Nat) (l6 : Nat) (l7 : Nat) (l8 : Nat) (th : Int32) (sz : Nat) : Met l yX15_endSafe wsX15_endSafe ({ frames := 0, cells := 0, slots := 0, locals := 0 }) (va_Pc [.ref x] (pre dC dI E [(x, .inr (21, [.ref s0, .int th])), (s0, .inr (20, [.ref l0, .ref l1, .ref l2, .ref l3, .ref l4, .ref l5, .ref l6, .ref l7, .ref l8, .int 10, .int 100, .int 50, .int 0, .int 0]))] [] sz)) (va_Qi (fun (r : Int32) (_ : Unit) => r = 0) (fun _ t => True) (va_A [(x, .inr (21, [.ref s0, .int th])), (s0, .inr (20, [.ref l0, .ref l1, .ref l2, .ref l3, .ref l4, .ref l5, .ref l6, .ref l7, .ref l8, .int 10, .int 100, .int 50, .int 0, .int 0]))] sz)) 0 0 (va_A [(x, .inr (21, [.ref s0, .int th])), (s0, .inr (20, [.ref l0, .ref l1, .ref l2, .ref l3, .ref l4, .ref l5, .ref l6, .ref l7, .ref l8, .int 10, .int 100, .int 50, .int 0, .int 0]))] sz) := by
  refine Met.ofW (cc := cX15_endSafe) (maxL := 2) (ret := (some .boolean)) (by decide) rfl ?_
  intro p e s m args below meth c s₁ B hml hv
  obtain ⟨rfl, hsz, hP, hK, hD0, hE, hZ0⟩ := hv
  have hx := B.exec
  have hb := B.bytes
  have hr := B.returns
  have hts := atoms_spec (ws := wsX15_endSafe) B.pre
  have hown : s.vm.findClass RX15 = some m.cls := findClass_of_methodNamed B.named
  have hlocks := B.notSynchronized
  subst hsz
  have hD := hD0.self (sz := s.heap.size)
  generalize hAe : va_A [(x, .inr (21, [.ref s0, .int th])), (s0, .inr (20, [.ref l0, .ref l1, .ref l2, .ref l3, .ref l4, .ref l5, .ref l6, .ref l7, .ref l8, .int 10, .int 100, .int 50, .int 0, .int 0]))] s.heap.size = A at hD hZ0 ⊢
  have hZ := hZ0
  have hA : ∀ q : Nat, s.heap.size ≤ q → A q := fun q h => by rw [← hAe]; exact Or.inr h
  have hS : va_S A s.heap s.heap [] := va_S.rf
  have hP : va_P (dC, dI) vwCl [(x, .inr (21, [.ref s0, .int th])), (s0, .inr (20, [.ref l0, .ref l1, .ref l2, .ref l3, .ref l4, .ref l5, .ref l6, .ref l7, .ref l8, .int 10, .int 100, .int 50, .int 0, .int 0]))] s.heap := hP
  have hl := lv_entry ([.ref x]) (n := 2) (Nat.le_of_ble_eq_true rfl)
  rw [lg_entry_eq]
  generalize (lg_sl ([.ref x]) ++ List.replicate (2 - (lg_sl ([.ref x])).length) Slot.unset).toArray = ls at hl ⊢
  have hl : lv_has ls 2 [(0, .ref x)] := hl
  refine lv_aload_n hx hb dX15_endSafe_0 rfl (lv_at hl 0 rfl) ?_
  refine va_get (D := (dC, dI)) (ci := 21) (v := .ref s0) (C := RX15) (T := TX15) (N := 2) hx hb hts (by decide +kernel) hown hK hP 0 rfl rfl 0 (by decide) (hts (.fieldLink RX15 10 "OrbitdockModel" "station" "LOrbitdockModel$Station;") (by decide +kernel)) (fun _ h9 => h9) rfl dX15_endSafe_1 ?_
  refine va_get (D := (dC, dI)) (ci := 20) (v := .int 0) (C := RX14) (T := TX14) (N := 14) hx hb hts (by decide +kernel) hown hK hP 1 rfl rfl 13 (by decide) (hts (.fieldLink RX15 98 "OrbitdockModel$Station" "isSafe" "Z") (by decide +kernel)) (fun _ h9 => h9) rfl dX15_endSafe_4 ?_
  refine lv_istore_n (lv' := [(1, .int 0), (0, .ref x)]) hx hb dX15_endSafe_7 rfl hl (by decide) rfl (fun ls hl => ?_)
  refine lv_aload_n hx hb dX15_endSafe_8 rfl (lv_at hl 1 rfl) ?_
  refine va_get (D := (dC, dI)) (ci := 21) (v := .ref s0) (C := RX15) (T := TX15) (N := 2) hx hb hts (by decide +kernel) hown hK hP 0 rfl rfl 0 (by decide) (hts (.fieldLink RX15 10 "OrbitdockModel" "station" "LOrbitdockModel$Station;") (by decide +kernel)) (fun _ h9 => h9) rfl dX15_endSafe_9 ?_
  refine lv_iconst (v := 0) hx hb dX15_endSafe_12 (by decide) ?_
  refine va_put (D := (dC, dI)) (ci := 20) (v := .int 0) (ty := .boolean) (C := RX14) (T := TX14) (N := 14) hx hb hts (by decide +kernel) tyX14 tyX14_ok nmX14 hown hK hP hD hS 1 rfl rfl 13 (by decide) (hts (.fieldLink RX15 98 "OrbitdockModel$Station" "isSafe" "Z") (by decide +kernel)) (fun _ h9 => h9) rfl (by decide +kernel) rfl rfl (Nat.le_of_ble_eq_true rfl) dX15_endSafe_13 (fun H locs hP hD hS => ?_)
  have hP : va_P (dC, dI) vwCl [(x, .inr (21, [.ref s0, .int th])), (s0, .inr (20, [.ref l0, .ref l1, .ref l2, .ref l3, .ref l4, .ref l5, .ref l6, .ref l7, .ref l8, .int 10, .int 100, .int 50, .int 0, .int 0]))] H := hP
  have hD : va_D A [(x, .inr (21, [.ref s0, .int th])), (s0, .inr (20, [.ref l0, .ref l1, .ref l2, .ref l3, .ref l4, .ref l5, .ref l6, .ref l7, .ref l8, .int 10, .int 100, .int 50, .int 0, .int 0]))] := hD
  refine lv_iload_n hx hb dX15_endSafe_16 rfl (lv_at hl 0 rfl) ?_
  refine W.widen (k := 0) (n := 0) (Nat.le_of_ble_eq_true rfl) (Nat.le_of_ble_eq_true rfl) ?_
  exact W.zret (v := 0) hx hb hr rfl (fun t ht hW => ⟨⟨0, (), rfl, rfl, trivial⟩, hS.F ht⟩) hS.2.2 dX15_endSafe_17

set_option maxHeartbeats 4000000 in
set_option maxRecDepth 100000 in
theorem c_rm_water (l : Launch) (dC : Nat → ClassId) (dI : Nat → Nat → Nat) (E : Nat → Nat) (x : Nat) (s0 : Nat) (l0 : Nat) (l1 : Nat) (l2 : Nat) (l3 : Nat) (l4 : Nat) (l5 : Nat) (l6 : Nat) (l7 : Nat) (l8 : Nat) (th : Int32) (sz : Nat) : Met l yX15_water wsX15_water ({ frames := 0, cells := 0, slots := 0, locals := 0 }) (va_Pc [.ref x] (pre dC dI E [(x, .inr (21, [.ref s0, .int th])), (s0, .inr (20, [.ref l0, .ref l1, .ref l2, .ref l3, .ref l4, .ref l5, .ref l6, .ref l7, .ref l8, .int 10, .int 100, .int 50, .int 0, .int 0]))] [] sz)) (va_Qi (fun (r : Int32) (_ : Unit) => r = 50) (fun _ t => True) (va_A [(x, .inr (21, [.ref s0, .int th])), (s0, .inr (20, [.ref l0, .ref l1, .ref l2, .ref l3, .ref l4, .ref l5, .ref l6, .ref l7, .ref l8, .int 10, .int 100, .int 50, .int 0, .int 0]))] sz)) 0 0 (va_A [(x, .inr (21, [.ref s0, .int th])), (s0, .inr (20, [.ref l0, .ref l1, .ref l2, .ref l3, .ref l4, .ref l5, .ref l6, .ref l7, .ref l8, .int 10, .int 100, .int 50, .int 0, .int 0]))] sz) := by
  refine Met.ofW (cc := cX15_water) (maxL := 1) (ret := (some .int)) (by decide) rfl ?_
  intro p e s m args below meth c s₁ B hml hv
  obtain ⟨rfl, hsz, hP, hK, hD0, hE, hZ0⟩ := hv
  have hx := B.exec
  have hb := B.bytes
  have hr := B.returns
  have hts := atoms_spec (ws := wsX15_water) B.pre
  have hown : s.vm.findClass RX15 = some m.cls := findClass_of_methodNamed B.named
  have hlocks := B.notSynchronized
  subst hsz
  have hD := hD0.self (sz := s.heap.size)
  generalize hAe : va_A [(x, .inr (21, [.ref s0, .int th])), (s0, .inr (20, [.ref l0, .ref l1, .ref l2, .ref l3, .ref l4, .ref l5, .ref l6, .ref l7, .ref l8, .int 10, .int 100, .int 50, .int 0, .int 0]))] s.heap.size = A at hD hZ0 ⊢
  have hZ := hZ0
  have hA : ∀ q : Nat, s.heap.size ≤ q → A q := fun q h => by rw [← hAe]; exact Or.inr h
  have hS : va_S A s.heap s.heap [] := va_S.rf
  have hP : va_P (dC, dI) vwCl [(x, .inr (21, [.ref s0, .int th])), (s0, .inr (20, [.ref l0, .ref l1, .ref l2, .ref l3, .ref l4, .ref l5, .ref l6, .ref l7, .ref l8, .int 10, .int 100, .int 50, .int 0, .int 0]))] s.heap := hP
  have hl := lv_entry ([.ref x]) (n := 1) (Nat.le_of_ble_eq_true rfl)
  rw [lg_entry_eq]
  generalize (lg_sl ([.ref x]) ++ List.replicate (1 - (lg_sl ([.ref x])).length) Slot.unset).toArray = ls at hl ⊢
  have hl : lv_has ls 1 [(0, .ref x)] := hl
  refine lv_aload_n hx hb dX15_water_0 rfl (lv_at hl 0 rfl) ?_
  refine va_get (D := (dC, dI)) (ci := 21) (v := .ref s0) (C := RX15) (T := TX15) (N := 2) hx hb hts (by decide +kernel) hown hK hP 0 rfl rfl 0 (by decide) (hts (.fieldLink RX15 10 "OrbitdockModel" "station" "LOrbitdockModel$Station;") (by decide +kernel)) (fun _ h9 => h9) rfl dX15_water_1 ?_
  refine va_get (D := (dC, dI)) (ci := 20) (v := .int 50) (C := RX14) (T := TX14) (N := 14) hx hb hts (by decide +kernel) hown hK hP 1 rfl rfl 11 (by decide) (hts (.fieldLink RX15 183 "OrbitdockModel$Station" "water" "I") (by decide +kernel)) (fun _ h9 => h9) rfl dX15_water_4 ?_
  refine W.widen (k := 0) (n := 0) (Nat.le_of_ble_eq_true rfl) (Nat.le_of_ble_eq_true rfl) ?_
  exact W.iret (v := 50) hx hb hr (fun t ht hW => ⟨⟨50, (), rfl, rfl, trivial⟩, hS.F ht⟩) hS.2.2 dX15_water_7

set_option maxHeartbeats 4000000 in
set_option maxRecDepth 100000 in
theorem c_rm_battery (l : Launch) (dC : Nat → ClassId) (dI : Nat → Nat → Nat) (E : Nat → Nat) (x : Nat) (s0 : Nat) (l0 : Nat) (l1 : Nat) (l2 : Nat) (l3 : Nat) (l4 : Nat) (l5 : Nat) (l6 : Nat) (l7 : Nat) (l8 : Nat) (th : Int32) (sz : Nat) : Met l yX15_battery wsX15_battery ({ frames := 0, cells := 0, slots := 0, locals := 0 }) (va_Pc [.ref x] (pre dC dI E [(x, .inr (21, [.ref s0, .int th])), (s0, .inr (20, [.ref l0, .ref l1, .ref l2, .ref l3, .ref l4, .ref l5, .ref l6, .ref l7, .ref l8, .int 10, .int 100, .int 50, .int 0, .int 0]))] [] sz)) (va_Qi (fun (r : Int32) (_ : Unit) => r = 100) (fun _ t => True) (va_A [(x, .inr (21, [.ref s0, .int th])), (s0, .inr (20, [.ref l0, .ref l1, .ref l2, .ref l3, .ref l4, .ref l5, .ref l6, .ref l7, .ref l8, .int 10, .int 100, .int 50, .int 0, .int 0]))] sz)) 0 0 (va_A [(x, .inr (21, [.ref s0, .int th])), (s0, .inr (20, [.ref l0, .ref l1, .ref l2, .ref l3, .ref l4, .ref l5, .ref l6, .ref l7, .ref l8, .int 10, .int 100, .int 50, .int 0, .int 0]))] sz) := by
  refine Met.ofW (cc := cX15_battery) (maxL := 1) (ret := (some .int)) (by decide) rfl ?_
  intro p e s m args below meth c s₁ B hml hv
  obtain ⟨rfl, hsz, hP, hK, hD0, hE, hZ0⟩ := hv
  have hx := B.exec
  have hb := B.bytes
  have hr := B.returns
  have hts := atoms_spec (ws := wsX15_battery) B.pre
  have hown : s.vm.findClass RX15 = some m.cls := findClass_of_methodNamed B.named
  have hlocks := B.notSynchronized
  subst hsz
  have hD := hD0.self (sz := s.heap.size)
  generalize hAe : va_A [(x, .inr (21, [.ref s0, .int th])), (s0, .inr (20, [.ref l0, .ref l1, .ref l2, .ref l3, .ref l4, .ref l5, .ref l6, .ref l7, .ref l8, .int 10, .int 100, .int 50, .int 0, .int 0]))] s.heap.size = A at hD hZ0 ⊢
  have hZ := hZ0
  have hA : ∀ q : Nat, s.heap.size ≤ q → A q := fun q h => by rw [← hAe]; exact Or.inr h
  have hS : va_S A s.heap s.heap [] := va_S.rf
  have hP : va_P (dC, dI) vwCl [(x, .inr (21, [.ref s0, .int th])), (s0, .inr (20, [.ref l0, .ref l1, .ref l2, .ref l3, .ref l4, .ref l5, .ref l6, .ref l7, .ref l8, .int 10, .int 100, .int 50, .int 0, .int 0]))] s.heap := hP
  have hl := lv_entry ([.ref x]) (n := 1) (Nat.le_of_ble_eq_true rfl)
  rw [lg_entry_eq]
  generalize (lg_sl ([.ref x]) ++ List.replicate (1 - (lg_sl ([.ref x])).length) Slot.unset).toArray = ls at hl ⊢
  have hl : lv_has ls 1 [(0, .ref x)] := hl
  refine lv_aload_n hx hb dX15_battery_0 rfl (lv_at hl 0 rfl) ?_
  refine va_get (D := (dC, dI)) (ci := 21) (v := .ref s0) (C := RX15) (T := TX15) (N := 2) hx hb hts (by decide +kernel) hown hK hP 0 rfl rfl 0 (by decide) (hts (.fieldLink RX15 10 "OrbitdockModel" "station" "LOrbitdockModel$Station;") (by decide +kernel)) (fun _ h9 => h9) rfl dX15_battery_1 ?_
  refine va_get (D := (dC, dI)) (ci := 20) (v := .int 100) (C := RX14) (T := TX14) (N := 14) hx hb hts (by decide +kernel) hown hK hP 1 rfl rfl 10 (by decide) (hts (.fieldLink RX15 186 "OrbitdockModel$Station" "battery" "I") (by decide +kernel)) (fun _ h9 => h9) rfl dX15_battery_4 ?_
  refine W.widen (k := 0) (n := 0) (Nat.le_of_ble_eq_true rfl) (Nat.le_of_ble_eq_true rfl) ?_
  exact W.iret (v := 100) hx hb hr (fun t ht hW => ⟨⟨100, (), rfl, rfl, trivial⟩, hS.F ht⟩) hS.2.2 dX15_battery_7

set_option maxHeartbeats 4000000 in
set_option maxRecDepth 100000 in
theorem c_rm_isSafe (l : Launch) (dC : Nat → ClassId) (dI : Nat → Nat → Nat) (E : Nat → Nat) (x : Nat) (s0 : Nat) (l0 : Nat) (l1 : Nat) (l2 : Nat) (l3 : Nat) (l4 : Nat) (l5 : Nat) (l6 : Nat) (l7 : Nat) (l8 : Nat) (th : Int32) (sz : Nat) : Met l yX15_isSafe wsX15_isSafe ({ frames := 0, cells := 0, slots := 0, locals := 0 }) (va_Pc [.ref x] (pre dC dI E [(x, .inr (21, [.ref s0, .int th])), (s0, .inr (20, [.ref l0, .ref l1, .ref l2, .ref l3, .ref l4, .ref l5, .ref l6, .ref l7, .ref l8, .int 10, .int 100, .int 50, .int 0, .int 0]))] [] sz)) (va_Qi (fun (r : Int32) (_ : Unit) => r = 0) (fun _ t => True) (va_A [(x, .inr (21, [.ref s0, .int th])), (s0, .inr (20, [.ref l0, .ref l1, .ref l2, .ref l3, .ref l4, .ref l5, .ref l6, .ref l7, .ref l8, .int 10, .int 100, .int 50, .int 0, .int 0]))] sz)) 0 0 (va_A [(x, .inr (21, [.ref s0, .int th])), (s0, .inr (20, [.ref l0, .ref l1, .ref l2, .ref l3, .ref l4, .ref l5, .ref l6, .ref l7, .ref l8, .int 10, .int 100, .int 50, .int 0, .int 0]))] sz) := by
  refine Met.ofW (cc := cX15_isSafe) (maxL := 1) (ret := (some .boolean)) (by decide) rfl ?_
  intro p e s m args below meth c s₁ B hml hv
  obtain ⟨rfl, hsz, hP, hK, hD0, hE, hZ0⟩ := hv
  have hx := B.exec
  have hb := B.bytes
  have hr := B.returns
  have hts := atoms_spec (ws := wsX15_isSafe) B.pre
  have hown : s.vm.findClass RX15 = some m.cls := findClass_of_methodNamed B.named
  have hlocks := B.notSynchronized
  subst hsz
  have hD := hD0.self (sz := s.heap.size)
  generalize hAe : va_A [(x, .inr (21, [.ref s0, .int th])), (s0, .inr (20, [.ref l0, .ref l1, .ref l2, .ref l3, .ref l4, .ref l5, .ref l6, .ref l7, .ref l8, .int 10, .int 100, .int 50, .int 0, .int 0]))] s.heap.size = A at hD hZ0 ⊢
  have hZ := hZ0
  have hA : ∀ q : Nat, s.heap.size ≤ q → A q := fun q h => by rw [← hAe]; exact Or.inr h
  have hS : va_S A s.heap s.heap [] := va_S.rf
  have hP : va_P (dC, dI) vwCl [(x, .inr (21, [.ref s0, .int th])), (s0, .inr (20, [.ref l0, .ref l1, .ref l2, .ref l3, .ref l4, .ref l5, .ref l6, .ref l7, .ref l8, .int 10, .int 100, .int 50, .int 0, .int 0]))] s.heap := hP
  have hl := lv_entry ([.ref x]) (n := 1) (Nat.le_of_ble_eq_true rfl)
  rw [lg_entry_eq]
  generalize (lg_sl ([.ref x]) ++ List.replicate (1 - (lg_sl ([.ref x])).length) Slot.unset).toArray = ls at hl ⊢
  have hl : lv_has ls 1 [(0, .ref x)] := hl
  refine lv_aload_n hx hb dX15_isSafe_0 rfl (lv_at hl 0 rfl) ?_
  refine va_get (D := (dC, dI)) (ci := 21) (v := .ref s0) (C := RX15) (T := TX15) (N := 2) hx hb hts (by decide +kernel) hown hK hP 0 rfl rfl 0 (by decide) (hts (.fieldLink RX15 10 "OrbitdockModel" "station" "LOrbitdockModel$Station;") (by decide +kernel)) (fun _ h9 => h9) rfl dX15_isSafe_1 ?_
  refine va_get (D := (dC, dI)) (ci := 20) (v := .int 0) (C := RX14) (T := TX14) (N := 14) hx hb hts (by decide +kernel) hown hK hP 1 rfl rfl 13 (by decide) (hts (.fieldLink RX15 98 "OrbitdockModel$Station" "isSafe" "Z") (by decide +kernel)) (fun _ h9 => h9) rfl dX15_isSafe_4 ?_
  refine W.widen (k := 0) (n := 0) (Nat.le_of_ble_eq_true rfl) (Nat.le_of_ble_eq_true rfl) ?_
  exact W.zret (v := 0) hx hb hr rfl (fun t ht hW => ⟨⟨0, (), rfl, rfl, trivial⟩, hS.F ht⟩) hS.2.2 dX15_isSafe_7

set_option maxHeartbeats 4000000 in
set_option maxRecDepth 100000 in
theorem c_rm_oxygen (l : Launch) (dC : Nat → ClassId) (dI : Nat → Nat → Nat) (E : Nat → Nat) (x : Nat) (s0 : Nat) (l0 : Nat) (l1 : Nat) (l2 : Nat) (l3 : Nat) (l4 : Nat) (l5 : Nat) (l6 : Nat) (l7 : Nat) (l8 : Nat) (th : Int32) (a : Int32) (sz : Nat) : Met l yX15_oxygen wsX15_oxygen ({ frames := 2, cells := 0, slots := 0, locals := 43 }) (va_Pc [.ref x, .int a] (pre dC dI E [(x, .inr (21, [.ref s0, .int th])), (s0, .inr (20, [.ref l0, .ref l1, .ref l2, .ref l3, .ref l4, .ref l5, .ref l6, .ref l7, .ref l8, .int 10, .int 100, .int 50, .int 0, .int 0])), (l0, .inr (5, [.int 0, .ref (E 0), .int 0]))] [] sz)) (va_Qi (fun (r : Int32) (_ : Unit) => r = 0) (fun _ t => pst dC dI (va_A [(x, .inr (21, [.ref s0, .int th])), (s0, .inr (20, [.ref l0, .ref l1, .ref l2, .ref l3, .ref l4, .ref l5, .ref l6, .ref l7, .ref l8, .int 10, .int 100, .int 50, .int 0, .int 0])), (l0, .inr (5, [.int 0, .ref (E 0), .int 0]))] sz) [(x, .inr (21, [.ref s0, .int 1]))] [] t) (va_A [(x, .inr (21, [.ref s0, .int th])), (s0, .inr (20, [.ref l0, .ref l1, .ref l2, .ref l3, .ref l4, .ref l5, .ref l6, .ref l7, .ref l8, .int 10, .int 100, .int 50, .int 0, .int 0])), (l0, .inr (5, [.int 0, .ref (E 0), .int 0]))] sz)) 0 0 (va_A [(x, .inr (21, [.ref s0, .int th])), (s0, .inr (20, [.ref l0, .ref l1, .ref l2, .ref l3, .ref l4, .ref l5, .ref l6, .ref l7, .ref l8, .int 10, .int 100, .int 50, .int 0, .int 0])), (l0, .inr (5, [.int 0, .ref (E 0), .int 0]))] sz) := by
  refine Met.ofW (cc := cX15_oxygen) (maxL := 2) (ret := (some .int)) (by decide) rfl ?_
  intro p e s m args below meth c s₁ B hml hv
  obtain ⟨rfl, hsz, hP, hK, hD0, hE, hZ0⟩ := hv
  have hx := B.exec
  have hb := B.bytes
  have hr := B.returns
  have hts := atoms_spec (ws := wsX15_oxygen) B.pre
  have hown : s.vm.findClass RX15 = some m.cls := findClass_of_methodNamed B.named
  have hlocks := B.notSynchronized
  subst hsz
  have hD := hD0.self (sz := s.heap.size)
  generalize hAe : va_A [(x, .inr (21, [.ref s0, .int th])), (s0, .inr (20, [.ref l0, .ref l1, .ref l2, .ref l3, .ref l4, .ref l5, .ref l6, .ref l7, .ref l8, .int 10, .int 100, .int 50, .int 0, .int 0])), (l0, .inr (5, [.int 0, .ref (E 0), .int 0]))] s.heap.size = A at hD hZ0 ⊢
  have hZ := hZ0
  have hA : ∀ q : Nat, s.heap.size ≤ q → A q := fun q h => by rw [← hAe]; exact Or.inr h
  have hS : va_S A s.heap s.heap [] := va_S.rf
  have hP : va_P (dC, dI) vwCl [(x, .inr (21, [.ref s0, .int th])), (s0, .inr (20, [.ref l0, .ref l1, .ref l2, .ref l3, .ref l4, .ref l5, .ref l6, .ref l7, .ref l8, .int 10, .int 100, .int 50, .int 0, .int 0])), (l0, .inr (5, [.int 0, .ref (E 0), .int 0]))] s.heap := hP
  have hl := lv_entry ([.ref x, .int a]) (n := 2) (Nat.le_of_ble_eq_true rfl)
  rw [lg_entry_eq]
  generalize (lg_sl ([.ref x, .int a]) ++ List.replicate (2 - (lg_sl ([.ref x, .int a])).length) Slot.unset).toArray = ls at hl ⊢
  have hl : lv_has ls 2 [(0, .ref x), (1, .int a)] := hl
  refine lv_aload_n hx hb dX15_oxygen_0 rfl (lv_at hl 0 rfl) ?_
  refine lv_aload_n hx hb dX15_oxygen_1 rfl (lv_at hl 0 rfl) ?_
  refine lv_iload_n hx hb dX15_oxygen_2 rfl (lv_at hl 1 rfl) ?_
  have hPc := hP.sub (ws' := [(x, .inr (21, [.ref s0, .int th])), (s0, .inr (20, [.ref l0, .ref l1, .ref l2, .ref l3, .ref l4, .ref l5, .ref l6, .ref l7, .ref l8, .int 10, .int 100, .int 50, .int 0, .int 0])), (l0, .inr (5, [.int 0, .ref (E 0), .int 0]))]) [0, 1, 2] rfl
  have hDc := hD.sub (ws' := [(x, .inr (21, [.ref s0, .int th])), (s0, .inr (20, [.ref l0, .ref l1, .ref l2, .ref l3, .ref l4, .ref l5, .ref l6, .ref l7, .ref l8, .int 10, .int 100, .int 50, .int 0, .int 0])), (l0, .inr (5, [.int 0, .ref (E 0), .int 0]))]) [0, 1, 2] (by decide) rfl
  have hKc := hK.sub (tys' := []) [] rfl
  have hFc := va_free (wc := [(x, .inr (21, [.ref s0, .int th])), (s0, .inr (20, [.ref l0, .ref l1, .ref l2, .ref l3, .ref l4, .ref l5, .ref l6, .ref l7, .ref l8, .int 10, .int 100, .int 50, .int 0, .int 0])), (l0, .inr (5, [.int 0, .ref (E 0), .int 0]))]) hD hS hA [0, 1, 2] rfl
  refine va_calli (va_runV (As := [.int a]) (rest := [.ref x]) ⟨hx, hb, hml, hown, hts⟩ (c_rm_isRoom l dC dI E x s0 l0 l1 l2 l3 l4 l5 l6 l7 l8 th a s.heap.size) (cwV 1 hts gX15_oxygen_X15_isRoom rfl rfl rfl (by decide +kernel) ⟨(Nat.le_of_ble_eq_true rfl), (Nat.le_of_ble_eq_true rfl)⟩) ⟨pre_blind, va_recv hKc hPc (ci := 21) (q0 := 0) rfl rfl, pre_call hPc hDc hKc hFc hE hZ hS⟩ rfl rfl hl.1 rfl (lv_room (Nat.le_of_ble_eq_true rfl)) dX15_oxygen_3 ⟨(Nat.le_of_ble_eq_true rfl), (Nat.le_of_ble_eq_true rfl)⟩) hS (fun q _ h => hFc q h) hFc (fun r u t H1 locs1 ht hvm hw hB hz1 hk1 hS => ?_)
  have hw9 : r = 0 := hw
  rw [hw9]
  obtain ⟨hP, hD, hK⟩ := pst_join (wc := [(x, .inr (21, [.ref s0, .int th])), (s0, .inr (20, [.ref l0, .ref l1, .ref l2, .ref l3, .ref l4, .ref l5, .ref l6, .ref l7, .ref l8, .int 10, .int 100, .int 50, .int 0, .int 0])), (l0, .inr (5, [.int 0, .ref (E 0), .int 0]))]) (wr := []) (w1 := [(x, .inr (21, [.ref s0, .int th])), (s0, .inr (20, [.ref l0, .ref l1, .ref l2, .ref l3, .ref l4, .ref l5, .ref l6, .ref l7, .ref l8, .int 10, .int 100, .int 50, .int 0, .int 0])), (l0, .inr (5, [.int 0, .ref (E 0), .int 0]))]) (tr := []) (t1 := []) hP hD hK [0, 1, 2] [] [] rfl rfl rfl (by decide) (by decide) hk1 hFc ht hvm hB
  generalize H1 = H at hP hS ⊢
  have hP : va_P (dC, dI) vwCl [(x, .inr (21, [.ref s0, .int th])), (s0, .inr (20, [.ref l0, .ref l1, .ref l2, .ref l3, .ref l4, .ref l5, .ref l6, .ref l7, .ref l8, .int 10, .int 100, .int 50, .int 0, .int 0])), (l0, .inr (5, [.int 0, .ref (E 0), .int 0]))] H := hP
  have hD : va_D A [(x, .inr (21, [.ref s0, .int th])), (s0, .inr (20, [.ref l0, .ref l1, .ref l2, .ref l3, .ref l4, .ref l5, .ref l6, .ref l7, .ref l8, .int 10, .int 100, .int 50, .int 0, .int 0])), (l0, .inr (5, [.int 0, .ref (E 0), .int 0]))] := hD
  have hK : va_K (dC, dI) vwCl [] s := hK
  refine W.widen (k := 0) (n := 0) (Nat.le_of_ble_eq_true rfl) (Nat.le_of_ble_eq_true rfl) ?_
  refine lv_iconst (v := 1) hx hb dX15_oxygen_6 (by decide) ?_
  have hPc := hP.sub (ws' := [(x, .inr (21, [.ref s0, .int th]))]) [0] rfl
  have hDc := hD.sub (ws' := [(x, .inr (21, [.ref s0, .int th]))]) [0] (by decide) rfl
  have hKc := hK.sub (tys' := []) [] rfl
  have hFc := va_free (wc := [(x, .inr (21, [.ref s0, .int th]))]) hD hS hA [0] rfl
  refine va_calli (va_runV (As := [.int 0, .int 1]) (rest := []) ⟨hx, hb, hml, hown, hts⟩ (c_rm_no_0 l dC dI E x s0 th 1 H.size) (cwV 2 hts gX15_oxygen_X15_no rfl rfl rfl (by decide +kernel) ⟨(Nat.le_of_ble_eq_true rfl), (Nat.le_of_ble_eq_true rfl)⟩) ⟨pre_blind, va_recv hKc hPc (ci := 21) (q0 := 0) rfl rfl, pre_call hPc hDc hKc hFc hE hZ hS⟩ rfl rfl hl.1 rfl (lv_room (Nat.le_of_ble_eq_true rfl)) dX15_oxygen_7 ⟨(Nat.le_of_ble_eq_true rfl), (Nat.le_of_ble_eq_true rfl)⟩) hS (fun q _ h => hFc q h) hFc (fun r u t H1 locs1 ht hvm hw hB hz1 hk1 hS => ?_)
  have hw9 : r = 1 := hw
  rw [hw9]
  obtain ⟨hP, hD, hK⟩ := pst_join (wc := [(x, .inr (21, [.ref s0, .int th]))]) (wr := [(s0, .inr (20, [.ref l0, .ref l1, .ref l2, .ref l3, .ref l4, .ref l5, .ref l6, .ref l7, .ref l8, .int 10, .int 100, .int 50, .int 0, .int 0])), (l0, .inr (5, [.int 0, .ref (E 0), .int 0]))]) (w1 := [(x, .inr (21, [.ref s0, .int 1]))]) (tr := []) (t1 := []) hP hD hK [0] [1, 2] [] rfl rfl rfl (by decide) (by decide) hk1 hFc ht hvm hB
  generalize H1 = H at hP hS ⊢
  have hP : va_P (dC, dI) vwCl [(s0, .inr (20, [.ref l0, .ref l1, .ref l2, .ref l3, .ref l4, .ref l5, .ref l6, .ref l7, .ref l8, .int 10, .int 100, .int 50, .int 0, .int 0])), (l0, .inr (5, [.int 0, .ref (E 0), .int 0])), (x, .inr (21, [.ref s0, .int 1]))] H := hP
  have hD : va_D A [(s0, .inr (20, [.ref l0, .ref l1, .ref l2, .ref l3, .ref l4, .ref l5, .ref l6, .ref l7, .ref l8, .int 10, .int 100, .int 50, .int 0, .int 0])), (l0, .inr (5, [.int 0, .ref (E 0), .int 0])), (x, .inr (21, [.ref s0, .int 1]))] := hD
  have hK : va_K (dC, dI) vwCl [] s := hK
  refine W.widen (k := 0) (n := 0) (Nat.le_of_ble_eq_true rfl) (Nat.le_of_ble_eq_true rfl) ?_
  refine lv_if_eq (tgt := 17) hx hb dX15_oxygen_10 (by decide) (fun c9 => absurd c9 (by decide)) (fun _ => ?_)
  refine lv_iconst (v := 0) hx hb dX15_oxygen_13 (by decide) ?_
  refine lv_goto (tgt := 36) hx hb dX15_oxygen_14 (by decide) ?_
  have hP9 := hP.sub (ws' := [(x, .inr (21, [.ref s0, .int 1]))]) [2] rfl
  have hD9 := hD.sub (ws' := [(x, .inr (21, [.ref s0, .int 1]))]) [2] (by decide) rfl
  have hK9 := hK.sub (tys' := []) [] rfl
  refine W.widen (k := 0) (n := 0) (Nat.le_of_ble_eq_true rfl) (Nat.le_of_ble_eq_true rfl) ?_
  exact W.iret (v := 0) hx hb hr (fun t ht hW => ⟨⟨0, (), rfl, rfl, pst_of hP9 hD9 hK9 ht hW⟩, hS.F ht⟩) hS.2.2 dX15_oxygen_36

set_option maxHeartbeats 4000000 in
set_option maxRecDepth 100000 in
theorem c_rm_carbon (l : Launch) (dC : Nat → ClassId) (dI : Nat → Nat → Nat) (E : Nat → Nat) (x : Nat) (s0 : Nat) (l0 : Nat) (l1 : Nat) (l2 : Nat) (l3 : Nat) (l4 : Nat) (l5 : Nat) (l6 : Nat) (l7 : Nat) (l8 : Nat) (th : Int32) (a : Int32) (sz : Nat) : Met l yX15_carbon wsX15_carbon ({ frames := 2, cells := 0, slots := 0, locals := 43 }) (va_Pc [.ref x, .int a] (pre dC dI E [(x, .inr (21, [.ref s0, .int th])), (s0, .inr (20, [.ref l0, .ref l1, .ref l2, .ref l3, .ref l4, .ref l5, .ref l6, .ref l7, .ref l8, .int 10, .int 100, .int 50, .int 0, .int 0])), (l0, .inr (5, [.int 0, .ref (E 0), .int 0]))] [] sz)) (va_Qi (fun (r : Int32) (_ : Unit) => r = 0) (fun _ t => pst dC dI (va_A [(x, .inr (21, [.ref s0, .int th])), (s0, .inr (20, [.ref l0, .ref l1, .ref l2, .ref l3, .ref l4, .ref l5, .ref l6, .ref l7, .ref l8, .int 10, .int 100, .int 50, .int 0, .int 0])), (l0, .inr (5, [.int 0, .ref (E 0), .int 0]))] sz) [(x, .inr (21, [.ref s0, .int 1]))] [] t) (va_A [(x, .inr (21, [.ref s0, .int th])), (s0, .inr (20, [.ref l0, .ref l1, .ref l2, .ref l3, .ref l4, .ref l5, .ref l6, .ref l7, .ref l8, .int 10, .int 100, .int 50, .int 0, .int 0])), (l0, .inr (5, [.int 0, .ref (E 0), .int 0]))] sz)) 0 0 (va_A [(x, .inr (21, [.ref s0, .int th])), (s0, .inr (20, [.ref l0, .ref l1, .ref l2, .ref l3, .ref l4, .ref l5, .ref l6, .ref l7, .ref l8, .int 10, .int 100, .int 50, .int 0, .int 0])), (l0, .inr (5, [.int 0, .ref (E 0), .int 0]))] sz) := by
  refine Met.ofW (cc := cX15_carbon) (maxL := 2) (ret := (some .int)) (by decide) rfl ?_
  intro p e s m args below meth c s₁ B hml hv
  obtain ⟨rfl, hsz, hP, hK, hD0, hE, hZ0⟩ := hv
  have hx := B.exec
  have hb := B.bytes
  have hr := B.returns
  have hts := atoms_spec (ws := wsX15_carbon) B.pre
  have hown : s.vm.findClass RX15 = some m.cls := findClass_of_methodNamed B.named
  have hlocks := B.notSynchronized
  subst hsz
  have hD := hD0.self (sz := s.heap.size)
  generalize hAe : va_A [(x, .inr (21, [.ref s0, .int th])), (s0, .inr (20, [.ref l0, .ref l1, .ref l2, .ref l3, .ref l4, .ref l5, .ref l6, .ref l7, .ref l8, .int 10, .int 100, .int 50, .int 0, .int 0])), (l0, .inr (5, [.int 0, .ref (E 0), .int 0]))] s.heap.size = A at hD hZ0 ⊢
  have hZ := hZ0
  have hA : ∀ q : Nat, s.heap.size ≤ q → A q := fun q h => by rw [← hAe]; exact Or.inr h
  have hS : va_S A s.heap s.heap [] := va_S.rf
  have hP : va_P (dC, dI) vwCl [(x, .inr (21, [.ref s0, .int th])), (s0, .inr (20, [.ref l0, .ref l1, .ref l2, .ref l3, .ref l4, .ref l5, .ref l6, .ref l7, .ref l8, .int 10, .int 100, .int 50, .int 0, .int 0])), (l0, .inr (5, [.int 0, .ref (E 0), .int 0]))] s.heap := hP
  have hl := lv_entry ([.ref x, .int a]) (n := 2) (Nat.le_of_ble_eq_true rfl)
  rw [lg_entry_eq]
  generalize (lg_sl ([.ref x, .int a]) ++ List.replicate (2 - (lg_sl ([.ref x, .int a])).length) Slot.unset).toArray = ls at hl ⊢
  have hl : lv_has ls 2 [(0, .ref x), (1, .int a)] := hl
  refine lv_aload_n hx hb dX15_carbon_0 rfl (lv_at hl 0 rfl) ?_
  refine lv_aload_n hx hb dX15_carbon_1 rfl (lv_at hl 0 rfl) ?_
  refine lv_iload_n hx hb dX15_carbon_2 rfl (lv_at hl 1 rfl) ?_
  have hPc := hP.sub (ws' := [(x, .inr (21, [.ref s0, .int th])), (s0, .inr (20, [.ref l0, .ref l1, .ref l2, .ref l3, .ref l4, .ref l5, .ref l6, .ref l7, .ref l8, .int 10, .int 100, .int 50, .int 0, .int 0])), (l0, .inr (5, [.int 0, .ref (E 0), .int 0]))]) [0, 1, 2] rfl
  have hDc := hD.sub (ws' := [(x, .inr (21, [.ref s0, .int th])), (s0, .inr (20, [.ref l0, .ref l1, .ref l2, .ref l3, .ref l4, .ref l5, .ref l6, .ref l7, .ref l8, .int 10, .int 100, .int 50, .int 0, .int 0])), (l0, .inr (5, [.int 0, .ref (E 0), .int 0]))]) [0, 1, 2] (by decide) rfl
  have hKc := hK.sub (tys' := []) [] rfl
  have hFc := va_free (wc := [(x, .inr (21, [.ref s0, .int th])), (s0, .inr (20, [.ref l0, .ref l1, .ref l2, .ref l3, .ref l4, .ref l5, .ref l6, .ref l7, .ref l8, .int 10, .int 100, .int 50, .int 0, .int 0])), (l0, .inr (5, [.int 0, .ref (E 0), .int 0]))]) hD hS hA [0, 1, 2] rfl
  refine va_calli (va_runV (As := [.int a]) (rest := [.ref x]) ⟨hx, hb, hml, hown, hts⟩ (c_rm_isRoom l dC dI E x s0 l0 l1 l2 l3 l4 l5 l6 l7 l8 th a s.heap.size) (cwV 1 hts gX15_carbon_X15_isRoom rfl rfl rfl (by decide +kernel) ⟨(Nat.le_of_ble_eq_true rfl), (Nat.le_of_ble_eq_true rfl)⟩) ⟨pre_blind, va_recv hKc hPc (ci := 21) (q0 := 0) rfl rfl, pre_call hPc hDc hKc hFc hE hZ hS⟩ rfl rfl hl.1 rfl (lv_room (Nat.le_of_ble_eq_true rfl)) dX15_carbon_3 ⟨(Nat.le_of_ble_eq_true rfl), (Nat.le_of_ble_eq_true rfl)⟩) hS (fun q _ h => hFc q h) hFc (fun r u t H1 locs1 ht hvm hw hB hz1 hk1 hS => ?_)
  have hw9 : r = 0 := hw
  rw [hw9]
  obtain ⟨hP, hD, hK⟩ := pst_join (wc := [(x, .inr (21, [.ref s0, .int th])), (s0, .inr (20, [.ref l0, .ref l1, .ref l2, .ref l3, .ref l4, .ref l5, .ref l6, .ref l7, .ref l8, .int 10, .int 100, .int 50, .int 0, .int 0])), (l0, .inr (5, [.int 0, .ref (E 0), .int 0]))]) (wr := []) (w1 := [(x, .inr (21, [.ref s0, .int th])), (s0, .inr (20, [.ref l0, .ref l1, .ref l2, .ref l3, .ref l4, .ref l5, .ref l6, .ref l7, .ref l8, .int 10, .int 100, .int 50, .int 0, .int 0])), (l0, .inr (5, [.int 0, .ref (E 0), .int 0]))]) (tr := []) (t1 := []) hP hD hK [0, 1, 2] [] [] rfl rfl rfl (by decide) (by decide) hk1 hFc ht hvm hB
  generalize H1 = H at hP hS ⊢
  have hP : va_P (dC, dI) vwCl [(x, .inr (21, [.ref s0, .int th])), (s0, .inr (20, [.ref l0, .ref l1, .ref l2, .ref l3, .ref l4, .ref l5, .ref l6, .ref l7, .ref l8, .int 10, .int 100, .int 50, .int 0, .int 0])), (l0, .inr (5, [.int 0, .ref (E 0), .int 0]))] H := hP
  have hD : va_D A [(x, .inr (21, [.ref s0, .int th])), (s0, .inr (20, [.ref l0, .ref l1, .ref l2, .ref l3, .ref l4, .ref l5, .ref l6, .ref l7, .ref l8, .int 10, .int 100, .int 50, .int 0, .int 0])), (l0, .inr (5, [.int 0, .ref (E 0), .int 0]))] := hD
  have hK : va_K (dC, dI) vwCl [] s := hK
  refine W.widen (k := 0) (n := 0) (Nat.le_of_ble_eq_true rfl) (Nat.le_of_ble_eq_true rfl) ?_
  refine lv_iconst (v := 1) hx hb dX15_carbon_6 (by decide) ?_
  have hPc := hP.sub (ws' := [(x, .inr (21, [.ref s0, .int th]))]) [0] rfl
  have hDc := hD.sub (ws' := [(x, .inr (21, [.ref s0, .int th]))]) [0] (by decide) rfl
  have hKc := hK.sub (tys' := []) [] rfl
  have hFc := va_free (wc := [(x, .inr (21, [.ref s0, .int th]))]) hD hS hA [0] rfl
  refine va_calli (va_runV (As := [.int 0, .int 1]) (rest := []) ⟨hx, hb, hml, hown, hts⟩ (c_rm_no_0 l dC dI E x s0 th 1 H.size) (cwV 2 hts gX15_carbon_X15_no rfl rfl rfl (by decide +kernel) ⟨(Nat.le_of_ble_eq_true rfl), (Nat.le_of_ble_eq_true rfl)⟩) ⟨pre_blind, va_recv hKc hPc (ci := 21) (q0 := 0) rfl rfl, pre_call hPc hDc hKc hFc hE hZ hS⟩ rfl rfl hl.1 rfl (lv_room (Nat.le_of_ble_eq_true rfl)) dX15_carbon_7 ⟨(Nat.le_of_ble_eq_true rfl), (Nat.le_of_ble_eq_true rfl)⟩) hS (fun q _ h => hFc q h) hFc (fun r u t H1 locs1 ht hvm hw hB hz1 hk1 hS => ?_)
  have hw9 : r = 1 := hw
  rw [hw9]
  obtain ⟨hP, hD, hK⟩ := pst_join (wc := [(x, .inr (21, [.ref s0, .int th]))]) (wr := [(s0, .inr (20, [.ref l0, .ref l1, .ref l2, .ref l3, .ref l4, .ref l5, .ref l6, .ref l7, .ref l8, .int 10, .int 100, .int 50, .int 0, .int 0])), (l0, .inr (5, [.int 0, .ref (E 0), .int 0]))]) (w1 := [(x, .inr (21, [.ref s0, .int 1]))]) (tr := []) (t1 := []) hP hD hK [0] [1, 2] [] rfl rfl rfl (by decide) (by decide) hk1 hFc ht hvm hB
  generalize H1 = H at hP hS ⊢
  have hP : va_P (dC, dI) vwCl [(s0, .inr (20, [.ref l0, .ref l1, .ref l2, .ref l3, .ref l4, .ref l5, .ref l6, .ref l7, .ref l8, .int 10, .int 100, .int 50, .int 0, .int 0])), (l0, .inr (5, [.int 0, .ref (E 0), .int 0])), (x, .inr (21, [.ref s0, .int 1]))] H := hP
  have hD : va_D A [(s0, .inr (20, [.ref l0, .ref l1, .ref l2, .ref l3, .ref l4, .ref l5, .ref l6, .ref l7, .ref l8, .int 10, .int 100, .int 50, .int 0, .int 0])), (l0, .inr (5, [.int 0, .ref (E 0), .int 0])), (x, .inr (21, [.ref s0, .int 1]))] := hD
  have hK : va_K (dC, dI) vwCl [] s := hK
  refine W.widen (k := 0) (n := 0) (Nat.le_of_ble_eq_true rfl) (Nat.le_of_ble_eq_true rfl) ?_
  refine lv_if_eq (tgt := 17) hx hb dX15_carbon_10 (by decide) (fun c9 => absurd c9 (by decide)) (fun _ => ?_)
  refine lv_iconst (v := 0) hx hb dX15_carbon_13 (by decide) ?_
  refine lv_goto (tgt := 36) hx hb dX15_carbon_14 (by decide) ?_
  have hP9 := hP.sub (ws' := [(x, .inr (21, [.ref s0, .int 1]))]) [2] rfl
  have hD9 := hD.sub (ws' := [(x, .inr (21, [.ref s0, .int 1]))]) [2] (by decide) rfl
  have hK9 := hK.sub (tys' := []) [] rfl
  refine W.widen (k := 0) (n := 0) (Nat.le_of_ble_eq_true rfl) (Nat.le_of_ble_eq_true rfl) ?_
  exact W.iret (v := 0) hx hb hr (fun t ht hW => ⟨⟨0, (), rfl, rfl, pst_of hP9 hD9 hK9 ht hW⟩, hS.F ht⟩) hS.2.2 dX15_carbon_36

set_option maxHeartbeats 4000000 in
set_option maxRecDepth 100000 in
theorem c_rm_whereIs (l : Launch) (dC : Nat → ClassId) (dI : Nat → Nat → Nat) (E : Nat → Nat) (x : Nat) (s0 : Nat) (l0 : Nat) (l1 : Nat) (l2 : Nat) (l3 : Nat) (l4 : Nat) (l5 : Nat) (l6 : Nat) (l7 : Nat) (l8 : Nat) (th : Int32) (a : Int32) (sz : Nat) : Met l yX15_whereIs wsX15_whereIs ({ frames := 2, cells := 0, slots := 0, locals := 43 }) (va_Pc [.ref x, .int a] (pre dC dI E [(x, .inr (21, [.ref s0, .int th])), (s0, .inr (20, [.ref l0, .ref l1, .ref l2, .ref l3, .ref l4, .ref l5, .ref l6, .ref l7, .ref l8, .int 10, .int 100, .int 50, .int 0, .int 0])), (l5, .inr (5, [.int 0, .ref (E 0), .int 0]))] [] sz)) (va_Qi (fun (r : Int32) (_ : Unit) => r = 0) (fun _ t => pst dC dI (va_A [(x, .inr (21, [.ref s0, .int th])), (s0, .inr (20, [.ref l0, .ref l1, .ref l2, .ref l3, .ref l4, .ref l5, .ref l6, .ref l7, .ref l8, .int 10, .int 100, .int 50, .int 0, .int 0])), (l5, .inr (5, [.int 0, .ref (E 0), .int 0]))] sz) [(x, .inr (21, [.ref s0, .int 1]))] [] t) (va_A [(x, .inr (21, [.ref s0, .int th])), (s0, .inr (20, [.ref l0, .ref l1, .ref l2, .ref l3, .ref l4, .ref l5, .ref l6, .ref l7, .ref l8, .int 10, .int 100, .int 50, .int 0, .int 0])), (l5, .inr (5, [.int 0, .ref (E 0), .int 0]))] sz)) 0 0 (va_A [(x, .inr (21, [.ref s0, .int th])), (s0, .inr (20, [.ref l0, .ref l1, .ref l2, .ref l3, .ref l4, .ref l5, .ref l6, .ref l7, .ref l8, .int 10, .int 100, .int 50, .int 0, .int 0])), (l5, .inr (5, [.int 0, .ref (E 0), .int 0]))] sz) := by
  refine Met.ofW (cc := cX15_whereIs) (maxL := 2) (ret := (some .int)) (by decide) rfl ?_
  intro p e s m args below meth c s₁ B hml hv
  obtain ⟨rfl, hsz, hP, hK, hD0, hE, hZ0⟩ := hv
  have hx := B.exec
  have hb := B.bytes
  have hr := B.returns
  have hts := atoms_spec (ws := wsX15_whereIs) B.pre
  have hown : s.vm.findClass RX15 = some m.cls := findClass_of_methodNamed B.named
  have hlocks := B.notSynchronized
  subst hsz
  have hD := hD0.self (sz := s.heap.size)
  generalize hAe : va_A [(x, .inr (21, [.ref s0, .int th])), (s0, .inr (20, [.ref l0, .ref l1, .ref l2, .ref l3, .ref l4, .ref l5, .ref l6, .ref l7, .ref l8, .int 10, .int 100, .int 50, .int 0, .int 0])), (l5, .inr (5, [.int 0, .ref (E 0), .int 0]))] s.heap.size = A at hD hZ0 ⊢
  have hZ := hZ0
  have hA : ∀ q : Nat, s.heap.size ≤ q → A q := fun q h => by rw [← hAe]; exact Or.inr h
  have hS : va_S A s.heap s.heap [] := va_S.rf
  have hP : va_P (dC, dI) vwCl [(x, .inr (21, [.ref s0, .int th])), (s0, .inr (20, [.ref l0, .ref l1, .ref l2, .ref l3, .ref l4, .ref l5, .ref l6, .ref l7, .ref l8, .int 10, .int 100, .int 50, .int 0, .int 0])), (l5, .inr (5, [.int 0, .ref (E 0), .int 0]))] s.heap := hP
  have hl := lv_entry ([.ref x, .int a]) (n := 2) (Nat.le_of_ble_eq_true rfl)
  rw [lg_entry_eq]
  generalize (lg_sl ([.ref x, .int a]) ++ List.replicate (2 - (lg_sl ([.ref x, .int a])).length) Slot.unset).toArray = ls at hl ⊢
  have hl : lv_has ls 2 [(0, .ref x), (1, .int a)] := hl
  refine lv_aload_n hx hb dX15_whereIs_0 rfl (lv_at hl 0 rfl) ?_
  refine lv_iload_n hx hb dX15_whereIs_1 rfl (lv_at hl 1 rfl) ?_
  have hPc := hP.sub (ws' := [(x, .inr (21, [.ref s0, .int th])), (s0, .inr (20, [.ref l0, .ref l1, .ref l2, .ref l3, .ref l4, .ref l5, .ref l6, .ref l7, .ref l8, .int 10, .int 100, .int 50, .int 0, .int 0])), (l5, .inr (5, [.int 0, .ref (E 0), .int 0]))]) [0, 1, 2] rfl
  have hDc := hD.sub (ws' := [(x, .inr (21, [.ref s0, .int th])), (s0, .inr (20, [.ref l0, .ref l1, .ref l2, .ref l3, .ref l4, .ref l5, .ref l6, .ref l7, .ref l8, .int 10, .int 100, .int 50, .int 0, .int 0])), (l5, .inr (5, [.int 0, .ref (E 0), .int 0]))]) [0, 1, 2] (by decide) rfl
  have hKc := hK.sub (tys' := []) [] rfl
  have hFc := va_free (wc := [(x, .inr (21, [.ref s0, .int th])), (s0, .inr (20, [.ref l0, .ref l1, .ref l2, .ref l3, .ref l4, .ref l5, .ref l6, .ref l7, .ref l8, .int 10, .int 100, .int 50, .int 0, .int 0])), (l5, .inr (5, [.int 0, .ref (E 0), .int 0]))]) hD hS hA [0, 1, 2] rfl
  refine va_calli (va_runV (As := [.int a]) (rest := []) ⟨hx, hb, hml, hown, hts⟩ (c_rm_noPerson l dC dI E x s0 l0 l1 l2 l3 l4 l5 l6 l7 l8 th a s.heap.size) (cwV 1 hts gX15_whereIs_X15_noPerson rfl rfl rfl (by decide +kernel) ⟨(Nat.le_of_ble_eq_true rfl), (Nat.le_of_ble_eq_true rfl)⟩) ⟨pre_blind, va_recv hKc hPc (ci := 21) (q0 := 0) rfl rfl, pre_call hPc hDc hKc hFc hE hZ hS⟩ rfl rfl hl.1 rfl (lv_room (Nat.le_of_ble_eq_true rfl)) dX15_whereIs_2 ⟨(Nat.le_of_ble_eq_true rfl), (Nat.le_of_ble_eq_true rfl)⟩) hS (fun q _ h => hFc q h) hFc (fun r u t H1 locs1 ht hvm hw hB hz1 hk1 hS => ?_)
  have hw9 : r = 1 := hw
  rw [hw9]
  obtain ⟨hP, hD, hK⟩ := pst_join (wc := [(x, .inr (21, [.ref s0, .int th])), (s0, .inr (20, [.ref l0, .ref l1, .ref l2, .ref l3, .ref l4, .ref l5, .ref l6, .ref l7, .ref l8, .int 10, .int 100, .int 50, .int 0, .int 0])), (l5, .inr (5, [.int 0, .ref (E 0), .int 0]))]) (wr := []) (w1 := [(x, .inr (21, [.ref s0, .int 1])), (s0, .inr (20, [.ref l0, .ref l1, .ref l2, .ref l3, .ref l4, .ref l5, .ref l6, .ref l7, .ref l8, .int 10, .int 100, .int 50, .int 0, .int 0])), (l5, .inr (5, [.int 0, .ref (E 0), .int 0]))]) (tr := []) (t1 := []) hP hD hK [0, 1, 2] [] [] rfl rfl rfl (by decide) (by decide) hk1 hFc ht hvm hB
  generalize H1 = H at hP hS ⊢
  have hP : va_P (dC, dI) vwCl [(x, .inr (21, [.ref s0, .int 1])), (s0, .inr (20, [.ref l0, .ref l1, .ref l2, .ref l3, .ref l4, .ref l5, .ref l6, .ref l7, .ref l8, .int 10, .int 100, .int 50, .int 0, .int 0])), (l5, .inr (5, [.int 0, .ref (E 0), .int 0]))] H := hP
  have hD : va_D A [(x, .inr (21, [.ref s0, .int 1])), (s0, .inr (20, [.ref l0, .ref l1, .ref l2, .ref l3, .ref l4, .ref l5, .ref l6, .ref l7, .ref l8, .int 10, .int 100, .int 50, .int 0, .int 0])), (l5, .inr (5, [.int 0, .ref (E 0), .int 0]))] := hD
  have hK : va_K (dC, dI) vwCl [] s := hK
  refine W.widen (k := 0) (n := 0) (Nat.le_of_ble_eq_true rfl) (Nat.le_of_ble_eq_true rfl) ?_
  refine lv_if_eq (tgt := 12) hx hb dX15_whereIs_5 (by decide) (fun c9 => absurd c9 (by decide)) (fun _ => ?_)
  refine lv_iconst (v := 0) hx hb dX15_whereIs_8 (by decide) ?_
  refine lv_goto (tgt := 31) hx hb dX15_whereIs_9 (by decide) ?_
  have hP9 := hP.sub (ws' := [(x, .inr (21, [.ref s0, .int 1]))]) [0] rfl
  have hD9 := hD.sub (ws' := [(x, .inr (21, [.ref s0, .int 1]))]) [0] (by decide) rfl
  have hK9 := hK.sub (tys' := []) [] rfl
  refine W.widen (k := 0) (n := 0) (Nat.le_of_ble_eq_true rfl) (Nat.le_of_ble_eq_true rfl) ?_
  exact W.iret (v := 0) hx hb hr (fun t ht hW => ⟨⟨0, (), rfl, rfl, pst_of hP9 hD9 hK9 ht hW⟩, hS.F ht⟩) hS.2.2 dX15_whereIs_31

set_option maxHeartbeats 4000000 in
set_option maxRecDepth 100000 in
theorem c_rm_distance (l : Launch) (dC : Nat → ClassId) (dI : Nat → Nat → Nat) (E : Nat → Nat) (x : Nat) (s0 : Nat) (l0 : Nat) (l1 : Nat) (l2 : Nat) (l3 : Nat) (l4 : Nat) (l5 : Nat) (l6 : Nat) (l7 : Nat) (l8 : Nat) (th : Int32) (a : Int32) (sz : Nat) : Met l yX15_distance wsX15_distance ({ frames := 2, cells := 0, slots := 0, locals := 43 }) (va_Pc [.ref x, .int a] (pre dC dI E [(x, .inr (21, [.ref s0, .int th])), (s0, .inr (20, [.ref l0, .ref l1, .ref l2, .ref l3, .ref l4, .ref l5, .ref l6, .ref l7, .ref l8, .int 10, .int 100, .int 50, .int 0, .int 0])), (l6, .inr (5, [.int 0, .ref (E 0), .int 0]))] [] sz)) (va_Qi (fun (r : Int32) (_ : Unit) => r = 0) (fun _ t => pst dC dI (va_A [(x, .inr (21, [.ref s0, .int th])), (s0, .inr (20, [.ref l0, .ref l1, .ref l2, .ref l3, .ref l4, .ref l5, .ref l6, .ref l7, .ref l8, .int 10, .int 100, .int 50, .int 0, .int 0])), (l6, .inr (5, [.int 0, .ref (E 0), .int 0]))] sz) [(x, .inr (21, [.ref s0, .int 1]))] [] t) (va_A [(x, .inr (21, [.ref s0, .int th])), (s0, .inr (20, [.ref l0, .ref l1, .ref l2, .ref l3, .ref l4, .ref l5, .ref l6, .ref l7, .ref l8, .int 10, .int 100, .int 50, .int 0, .int 0])), (l6, .inr (5, [.int 0, .ref (E 0), .int 0]))] sz)) 0 0 (va_A [(x, .inr (21, [.ref s0, .int th])), (s0, .inr (20, [.ref l0, .ref l1, .ref l2, .ref l3, .ref l4, .ref l5, .ref l6, .ref l7, .ref l8, .int 10, .int 100, .int 50, .int 0, .int 0])), (l6, .inr (5, [.int 0, .ref (E 0), .int 0]))] sz) := by
  refine Met.ofW (cc := cX15_distance) (maxL := 2) (ret := (some .int)) (by decide) rfl ?_
  intro p e s m args below meth c s₁ B hml hv
  obtain ⟨rfl, hsz, hP, hK, hD0, hE, hZ0⟩ := hv
  have hx := B.exec
  have hb := B.bytes
  have hr := B.returns
  have hts := atoms_spec (ws := wsX15_distance) B.pre
  have hown : s.vm.findClass RX15 = some m.cls := findClass_of_methodNamed B.named
  have hlocks := B.notSynchronized
  subst hsz
  have hD := hD0.self (sz := s.heap.size)
  generalize hAe : va_A [(x, .inr (21, [.ref s0, .int th])), (s0, .inr (20, [.ref l0, .ref l1, .ref l2, .ref l3, .ref l4, .ref l5, .ref l6, .ref l7, .ref l8, .int 10, .int 100, .int 50, .int 0, .int 0])), (l6, .inr (5, [.int 0, .ref (E 0), .int 0]))] s.heap.size = A at hD hZ0 ⊢
  have hZ := hZ0
  have hA : ∀ q : Nat, s.heap.size ≤ q → A q := fun q h => by rw [← hAe]; exact Or.inr h
  have hS : va_S A s.heap s.heap [] := va_S.rf
  have hP : va_P (dC, dI) vwCl [(x, .inr (21, [.ref s0, .int th])), (s0, .inr (20, [.ref l0, .ref l1, .ref l2, .ref l3, .ref l4, .ref l5, .ref l6, .ref l7, .ref l8, .int 10, .int 100, .int 50, .int 0, .int 0])), (l6, .inr (5, [.int 0, .ref (E 0), .int 0]))] s.heap := hP
  have hl := lv_entry ([.ref x, .int a]) (n := 2) (Nat.le_of_ble_eq_true rfl)
  rw [lg_entry_eq]
  generalize (lg_sl ([.ref x, .int a]) ++ List.replicate (2 - (lg_sl ([.ref x, .int a])).length) Slot.unset).toArray = ls at hl ⊢
  have hl : lv_has ls 2 [(0, .ref x), (1, .int a)] := hl
  refine lv_aload_n hx hb dX15_distance_0 rfl (lv_at hl 0 rfl) ?_
  refine lv_iload_n hx hb dX15_distance_1 rfl (lv_at hl 1 rfl) ?_
  have hPc := hP.sub (ws' := [(x, .inr (21, [.ref s0, .int th])), (s0, .inr (20, [.ref l0, .ref l1, .ref l2, .ref l3, .ref l4, .ref l5, .ref l6, .ref l7, .ref l8, .int 10, .int 100, .int 50, .int 0, .int 0])), (l6, .inr (5, [.int 0, .ref (E 0), .int 0]))]) [0, 1, 2] rfl
  have hDc := hD.sub (ws' := [(x, .inr (21, [.ref s0, .int th])), (s0, .inr (20, [.ref l0, .ref l1, .ref l2, .ref l3, .ref l4, .ref l5, .ref l6, .ref l7, .ref l8, .int 10, .int 100, .int 50, .int 0, .int 0])), (l6, .inr (5, [.int 0, .ref (E 0), .int 0]))]) [0, 1, 2] (by decide) rfl
  have hKc := hK.sub (tys' := []) [] rfl
  have hFc := va_free (wc := [(x, .inr (21, [.ref s0, .int th])), (s0, .inr (20, [.ref l0, .ref l1, .ref l2, .ref l3, .ref l4, .ref l5, .ref l6, .ref l7, .ref l8, .int 10, .int 100, .int 50, .int 0, .int 0])), (l6, .inr (5, [.int 0, .ref (E 0), .int 0]))]) hD hS hA [0, 1, 2] rfl
  refine va_calli (va_runV (As := [.int a]) (rest := []) ⟨hx, hb, hml, hown, hts⟩ (c_rm_noShip l dC dI E x s0 l0 l1 l2 l3 l4 l5 l6 l7 l8 th a s.heap.size) (cwV 1 hts gX15_distance_X15_noShip rfl rfl rfl (by decide +kernel) ⟨(Nat.le_of_ble_eq_true rfl), (Nat.le_of_ble_eq_true rfl)⟩) ⟨pre_blind, va_recv hKc hPc (ci := 21) (q0 := 0) rfl rfl, pre_call hPc hDc hKc hFc hE hZ hS⟩ rfl rfl hl.1 rfl (lv_room (Nat.le_of_ble_eq_true rfl)) dX15_distance_2 ⟨(Nat.le_of_ble_eq_true rfl), (Nat.le_of_ble_eq_true rfl)⟩) hS (fun q _ h => hFc q h) hFc (fun r u t H1 locs1 ht hvm hw hB hz1 hk1 hS => ?_)
  have hw9 : r = 1 := hw
  rw [hw9]
  obtain ⟨hP, hD, hK⟩ := pst_join (wc := [(x, .inr (21, [.ref s0, .int th])), (s0, .inr (20, [.ref l0, .ref l1, .ref l2, .ref l3, .ref l4, .ref l5, .ref l6, .ref l7, .ref l8, .int 10, .int 100, .int 50, .int 0, .int 0])), (l6, .inr (5, [.int 0, .ref (E 0), .int 0]))]) (wr := []) (w1 := [(x, .inr (21, [.ref s0, .int 1])), (s0, .inr (20, [.ref l0, .ref l1, .ref l2, .ref l3, .ref l4, .ref l5, .ref l6, .ref l7, .ref l8, .int 10, .int 100, .int 50, .int 0, .int 0])), (l6, .inr (5, [.int 0, .ref (E 0), .int 0]))]) (tr := []) (t1 := []) hP hD hK [0, 1, 2] [] [] rfl rfl rfl (by decide) (by decide) hk1 hFc ht hvm hB
  generalize H1 = H at hP hS ⊢
  have hP : va_P (dC, dI) vwCl [(x, .inr (21, [.ref s0, .int 1])), (s0, .inr (20, [.ref l0, .ref l1, .ref l2, .ref l3, .ref l4, .ref l5, .ref l6, .ref l7, .ref l8, .int 10, .int 100, .int 50, .int 0, .int 0])), (l6, .inr (5, [.int 0, .ref (E 0), .int 0]))] H := hP
  have hD : va_D A [(x, .inr (21, [.ref s0, .int 1])), (s0, .inr (20, [.ref l0, .ref l1, .ref l2, .ref l3, .ref l4, .ref l5, .ref l6, .ref l7, .ref l8, .int 10, .int 100, .int 50, .int 0, .int 0])), (l6, .inr (5, [.int 0, .ref (E 0), .int 0]))] := hD
  have hK : va_K (dC, dI) vwCl [] s := hK
  refine W.widen (k := 0) (n := 0) (Nat.le_of_ble_eq_true rfl) (Nat.le_of_ble_eq_true rfl) ?_
  refine lv_if_eq (tgt := 12) hx hb dX15_distance_5 (by decide) (fun c9 => absurd c9 (by decide)) (fun _ => ?_)
  refine lv_iconst (v := 0) hx hb dX15_distance_8 (by decide) ?_
  refine lv_goto (tgt := 31) hx hb dX15_distance_9 (by decide) ?_
  have hP9 := hP.sub (ws' := [(x, .inr (21, [.ref s0, .int 1]))]) [0] rfl
  have hD9 := hD.sub (ws' := [(x, .inr (21, [.ref s0, .int 1]))]) [0] (by decide) rfl
  have hK9 := hK.sub (tys' := []) [] rfl
  refine W.widen (k := 0) (n := 0) (Nat.le_of_ble_eq_true rfl) (Nat.le_of_ble_eq_true rfl) ?_
  exact W.iret (v := 0) hx hb hr (fun t ht hW => ⟨⟨0, (), rfl, rfl, pst_of hP9 hD9 hK9 ht hW⟩, hS.F ht⟩) hS.2.2 dX15_distance_31

set_option maxHeartbeats 4000000 in
set_option maxRecDepth 100000 in
theorem c_rm_send_y (l : Launch) (dC : Nat → ClassId) (dI : Nat → Nat → Nat) (E : Nat → Nat) (x : Nat) (s0 : Nat) (l0 : Nat) (l1 : Nat) (l2 : Nat) (l3 : Nat) (l4 : Nat) (l5 : Nat) (l6 : Nat) (l7 : Nat) (l8 : Nat) (th : Int32) (k : Int32) (a : Int32) (b : Int32) (c4 : Int32) (sz : Nat) (hk : k = 110 ∨ k = 102 ∨ k = 111 ∨ k = 104) (hla1 : ¬ b < 1) (hua1 : ¬ 99 < b) (hla2 : ¬ c4 < 0) (hua2 : ¬ 99 < c4) : Met l yX15_send wsX15_send ({ frames := 2, cells := 0, slots := 0, locals := 43 }) (va_Pc [.ref x, .int k, .int a, .int b, .int c4] (pre dC dI E [(x, .inr (21, [.ref s0, .int th])), (s0, .inr (20, [.ref l0, .ref l1, .ref l2, .ref l3, .ref l4, .ref l5, .ref l6, .ref l7, .ref l8, .int 10, .int 100, .int 50, .int 0, .int 0])), (l3, .inr (5, [.int 0, .ref (E 0), .int 0])), (l4, .inr (5, [.int 0, .ref (E 0), .int 0]))] [] sz)) (va_Qi (fun (r : Int32) (_ : Unit) => r = 0) (fun _ t => pst dC dI (va_A [(x, .inr (21, [.ref s0, .int th])), (s0, .inr (20, [.ref l0, .ref l1, .ref l2, .ref l3, .ref l4, .ref l5, .ref l6, .ref l7, .ref l8, .int 10, .int 100, .int 50, .int 0, .int 0])), (l3, .inr (5, [.int 0, .ref (E 0), .int 0])), (l4, .inr (5, [.int 0, .ref (E 0), .int 0]))] sz) [(x, .inr (21, [.ref s0, .int 2]))] [] t) (va_A [(x, .inr (21, [.ref s0, .int th])), (s0, .inr (20, [.ref l0, .ref l1, .ref l2, .ref l3, .ref l4, .ref l5, .ref l6, .ref l7, .ref l8, .int 10, .int 100, .int 50, .int 0, .int 0])), (l3, .inr (5, [.int 0, .ref (E 0), .int 0])), (l4, .inr (5, [.int 0, .ref (E 0), .int 0]))] sz)) 0 0 (va_A [(x, .inr (21, [.ref s0, .int th])), (s0, .inr (20, [.ref l0, .ref l1, .ref l2, .ref l3, .ref l4, .ref l5, .ref l6, .ref l7, .ref l8, .int 10, .int 100, .int 50, .int 0, .int 0])), (l3, .inr (5, [.int 0, .ref (E 0), .int 0])), (l4, .inr (5, [.int 0, .ref (E 0), .int 0]))] sz) := by
  refine Met.ofW (cc := cX15_send) (maxL := 6) (ret := (some .int)) (by decide) rfl ?_
  intro p e s m args below meth c s₁ B hml hv
  obtain ⟨rfl, hsz, hP, hK, hD0, hE, hZ0⟩ := hv
  have hx := B.exec
  have hb := B.bytes
  have hr := B.returns
  have hts := atoms_spec (ws := wsX15_send) B.pre
  have hown : s.vm.findClass RX15 = some m.cls := findClass_of_methodNamed B.named
  have hlocks := B.notSynchronized
  subst hsz
  have hD := hD0.self (sz := s.heap.size)
  generalize hAe : va_A [(x, .inr (21, [.ref s0, .int th])), (s0, .inr (20, [.ref l0, .ref l1, .ref l2, .ref l3, .ref l4, .ref l5, .ref l6, .ref l7, .ref l8, .int 10, .int 100, .int 50, .int 0, .int 0])), (l3, .inr (5, [.int 0, .ref (E 0), .int 0])), (l4, .inr (5, [.int 0, .ref (E 0), .int 0]))] s.heap.size = A at hD hZ0 ⊢
  have hZ := hZ0
  have hA : ∀ q : Nat, s.heap.size ≤ q → A q := fun q h => by rw [← hAe]; exact Or.inr h
  have hS : va_S A s.heap s.heap [] := va_S.rf
  have hP : va_P (dC, dI) vwCl [(x, .inr (21, [.ref s0, .int th])), (s0, .inr (20, [.ref l0, .ref l1, .ref l2, .ref l3, .ref l4, .ref l5, .ref l6, .ref l7, .ref l8, .int 10, .int 100, .int 50, .int 0, .int 0])), (l3, .inr (5, [.int 0, .ref (E 0), .int 0])), (l4, .inr (5, [.int 0, .ref (E 0), .int 0]))] s.heap := hP
  have hl := lv_entry ([.ref x, .int k, .int a, .int b, .int c4]) (n := 6) (Nat.le_of_ble_eq_true rfl)
  rw [lg_entry_eq]
  generalize (lg_sl ([.ref x, .int k, .int a, .int b, .int c4]) ++ List.replicate (6 - (lg_sl ([.ref x, .int k, .int a, .int b, .int c4])).length) Slot.unset).toArray = ls at hl ⊢
  have hl : lv_has ls 6 [(0, .ref x), (1, .int k), (2, .int a), (3, .int b), (4, .int c4)] := hl
  refine lv_iload_n hx hb dX15_send_0 rfl (lv_at hl 1 rfl) ?_
  refine lv_bipush (v := 110) hx hb dX15_send_1 (by decide) ?_
  refine lv_icmp_eq (tgt := 24) hx hb dX15_send_3 (by decide) (fun c_1 => ?_) (fun c_1 => ?_)
  · refine lv_iload_n hx hb dX15_send_24 rfl (lv_at hl 3 rfl) ?_
    refine lv_iconst (v := 1) hx hb dX15_send_25 (by decide) ?_
    refine lv_bipush (v := 99) hx hb dX15_send_26 (by decide) ?_
    have hPc := hP.sub (ws' := []) [] rfl
    have hDc := hD.sub (ws' := []) [] (by decide) rfl
    have hKc := hK.sub (tys' := []) [] rfl
    have hFc := va_free (wc := []) hD hS hA [] rfl
    refine va_calli (va_runS (As := [.int b, .int 1, .int 99]) (rest := []) ⟨hx, hb, hml, hown, hts⟩ (c_rm_isIn_y l dC dI E b 1 99 s.heap.size hla1 hua1) (va_cwS 3 hts gX15_send_X15_isIn rfl rfl rfl (by decide +kernel) ⟨(Nat.le_of_ble_eq_true rfl), (Nat.le_of_ble_eq_true rfl)⟩) ⟨pre_blind, pre_call hPc hDc hKc hFc hE hZ hS⟩ rfl rfl hl.1 rfl (lv_room (Nat.le_of_ble_eq_true rfl)) dX15_send_28 ⟨(Nat.le_of_ble_eq_true rfl), (Nat.le_of_ble_eq_true rfl)⟩) hS (fun q _ h => hFc q h) hFc (fun r u t H1 locs1 ht hvm hw hB hz1 hk1 hS => ?_)
    have hw9 : r = 1 := hw
    rw [hw9]
    obtain ⟨hP, hD, hK⟩ := pst_join (wc := []) (wr := [(x, .inr (21, [.ref s0, .int th])), (s0, .inr (20, [.ref l0, .ref l1, .ref l2, .ref l3, .ref l4, .ref l5, .ref l6, .ref l7, .ref l8, .int 10, .int 100, .int 50, .int 0, .int 0])), (l3, .inr (5, [.int 0, .ref (E 0), .int 0])), (l4, .inr (5, [.int 0, .ref (E 0), .int 0]))]) (w1 := []) (tr := []) (t1 := []) hP hD hK [] [0, 1, 2, 3] [] rfl rfl rfl (by decide) (by decide) hk1 hFc ht hvm hB
    generalize H1 = H at hP hS ⊢
    have hP : va_P (dC, dI) vwCl [(x, .inr (21, [.ref s0, .int th])), (s0, .inr (20, [.ref l0, .ref l1, .ref l2, .ref l3, .ref l4, .ref l5, .ref l6, .ref l7, .ref l8, .int 10, .int 100, .int 50, .int 0, .int 0])), (l3, .inr (5, [.int 0, .ref (E 0), .int 0])), (l4, .inr (5, [.int 0, .ref (E 0), .int 0]))] H := hP
    have hD : va_D A [(x, .inr (21, [.ref s0, .int th])), (s0, .inr (20, [.ref l0, .ref l1, .ref l2, .ref l3, .ref l4, .ref l5, .ref l6, .ref l7, .ref l8, .int 10, .int 100, .int 50, .int 0, .int 0])), (l3, .inr (5, [.int 0, .ref (E 0), .int 0])), (l4, .inr (5, [.int 0, .ref (E 0), .int 0]))] := hD
    have hK : va_K (dC, dI) vwCl [] s := hK
    refine W.widen (k := 0) (n := 0) (Nat.le_of_ble_eq_true rfl) (Nat.le_of_ble_eq_true rfl) ?_
    refine lv_if_eq (tgt := 49) hx hb dX15_send_31 (by decide) (fun c9 => absurd c9 (by decide)) (fun _ => ?_)
    refine lv_iload hx hb dX15_send_34 (lv_at hl 4 rfl) ?_
    refine lv_iconst (v := 0) hx hb dX15_send_36 (by decide) ?_
    refine lv_bipush (v := 99) hx hb dX15_send_37 (by decide) ?_
    have hPc := hP.sub (ws' := []) [] rfl
    have hDc := hD.sub (ws' := []) [] (by decide) rfl
    have hKc := hK.sub (tys' := []) [] rfl
    have hFc := va_free (wc := []) hD hS hA [] rfl
    refine va_calli (va_runS (As := [.int c4, .int 0, .int 99]) (rest := []) ⟨hx, hb, hml, hown, hts⟩ (c_rm_isIn_y l dC dI E c4 0 99 H.size hla2 hua2) (va_cwS 3 hts gX15_send_X15_isIn rfl rfl rfl (by decide +kernel) ⟨(Nat.le_of_ble_eq_true rfl), (Nat.le_of_ble_eq_true rfl)⟩) ⟨pre_blind, pre_call hPc hDc hKc hFc hE hZ hS⟩ rfl rfl hl.1 rfl (lv_room (Nat.le_of_ble_eq_true rfl)) dX15_send_39 ⟨(Nat.le_of_ble_eq_true rfl), (Nat.le_of_ble_eq_true rfl)⟩) hS (fun q _ h => hFc q h) hFc (fun r u t H1 locs1 ht hvm hw hB hz1 hk1 hS => ?_)
    have hw9 : r = 1 := hw
    rw [hw9]
    obtain ⟨hP, hD, hK⟩ := pst_join (wc := []) (wr := [(x, .inr (21, [.ref s0, .int th])), (s0, .inr (20, [.ref l0, .ref l1, .ref l2, .ref l3, .ref l4, .ref l5, .ref l6, .ref l7, .ref l8, .int 10, .int 100, .int 50, .int 0, .int 0])), (l3, .inr (5, [.int 0, .ref (E 0), .int 0])), (l4, .inr (5, [.int 0, .ref (E 0), .int 0]))]) (w1 := []) (tr := []) (t1 := []) hP hD hK [] [0, 1, 2, 3] [] rfl rfl rfl (by decide) (by decide) hk1 hFc ht hvm hB
    generalize H1 = H at hP hS ⊢
    have hP : va_P (dC, dI) vwCl [(x, .inr (21, [.ref s0, .int th])), (s0, .inr (20, [.ref l0, .ref l1, .ref l2, .ref l3, .ref l4, .ref l5, .ref l6, .ref l7, .ref l8, .int 10, .int 100, .int 50, .int 0, .int 0])), (l3, .inr (5, [.int 0, .ref (E 0), .int 0])), (l4, .inr (5, [.int 0, .ref (E 0), .int 0]))] H := hP
    have hD : va_D A [(x, .inr (21, [.ref s0, .int th])), (s0, .inr (20, [.ref l0, .ref l1, .ref l2, .ref l3, .ref l4, .ref l5, .ref l6, .ref l7, .ref l8, .int 10, .int 100, .int 50, .int 0, .int 0])), (l3, .inr (5, [.int 0, .ref (E 0), .int 0])), (l4, .inr (5, [.int 0, .ref (E 0), .int 0]))] := hD
    have hK : va_K (dC, dI) vwCl [] s := hK
    refine W.widen (k := 0) (n := 0) (Nat.le_of_ble_eq_true rfl) (Nat.le_of_ble_eq_true rfl) ?_
    refine lv_if_eq (tgt := 49) hx hb dX15_send_42 (by decide) (fun c9 => absurd c9 (by decide)) (fun _ => ?_)
    refine lv_iconst (v := 1) hx hb dX15_send_45 (by decide) ?_
    refine lv_goto (tgt := 50) hx hb dX15_send_46 (by decide) ?_
    refine lv_istore (lv' := [(5, .int 1), (0, .ref x), (1, .int k), (2, .int a), (3, .int b), (4, .int c4)]) hx hb dX15_send_50 hl (by decide) rfl (fun ls hl => ?_)
    refine lv_aload_n hx hb dX15_send_52 rfl (lv_at hl 1 rfl) ?_
    refine lv_iload hx hb dX15_send_53 (lv_at hl 0 rfl) ?_
    refine lv_iconst (v := 1) hx hb dX15_send_55 (by decide) ?_
    have hPc := hP.sub (ws' := [(x, .inr (21, [.ref s0, .int th]))]) [0] rfl
    have hDc := hD.sub (ws' := [(x, .inr (21, [.ref s0, .int th]))]) [0] (by decide) rfl
    have hKc := hK.sub (tys' := []) [] rfl
    have hFc := va_free (wc := [(x, .inr (21, [.ref s0, .int th]))]) hD hS hA [0] rfl
    refine va_calli (va_runV (As := [.int 1, .int 1]) (rest := []) ⟨hx, hb, hml, hown, hts⟩ (c_rm_no_1 l dC dI E x s0 th 1 H.size) (cwV 2 hts gX15_send_X15_no rfl rfl rfl (by decide +kernel) ⟨(Nat.le_of_ble_eq_true rfl), (Nat.le_of_ble_eq_true rfl)⟩) ⟨pre_blind, va_recv hKc hPc (ci := 21) (q0 := 0) rfl rfl, pre_call hPc hDc hKc hFc hE hZ hS⟩ rfl rfl hl.1 rfl (lv_room (Nat.le_of_ble_eq_true rfl)) dX15_send_56 ⟨(Nat.le_of_ble_eq_true rfl), (Nat.le_of_ble_eq_true rfl)⟩) hS (fun q _ h => hFc q h) hFc (fun r u t H1 locs1 ht hvm hw hB hz1 hk1 hS => ?_)
    have hw9 : r = 0 := hw
    rw [hw9]
    obtain ⟨hP, hD, hK⟩ := pst_join (wc := [(x, .inr (21, [.ref s0, .int th]))]) (wr := [(s0, .inr (20, [.ref l0, .ref l1, .ref l2, .ref l3, .ref l4, .ref l5, .ref l6, .ref l7, .ref l8, .int 10, .int 100, .int 50, .int 0, .int 0])), (l3, .inr (5, [.int 0, .ref (E 0), .int 0])), (l4, .inr (5, [.int 0, .ref (E 0), .int 0]))]) (w1 := [(x, .inr (21, [.ref s0, .int 0]))]) (tr := []) (t1 := []) hP hD hK [0] [1, 2, 3] [] rfl rfl rfl (by decide) (by decide) hk1 hFc ht hvm hB
    generalize H1 = H at hP hS ⊢
    have hP : va_P (dC, dI) vwCl [(s0, .inr (20, [.ref l0, .ref l1, .ref l2, .ref l3, .ref l4, .ref l5, .ref l6, .ref l7, .ref l8, .int 10, .int 100, .int 50, .int 0, .int 0])), (l3, .inr (5, [.int 0, .ref (E 0), .int 0])), (l4, .inr (5, [.int 0, .ref (E 0), .int 0])), (x, .inr (21, [.ref s0, .int 0]))] H := hP
    have hD : va_D A [(s0, .inr (20, [.ref l0, .ref l1, .ref l2, .ref l3, .ref l4, .ref l5, .ref l6, .ref l7, .ref l8, .int 10, .int 100, .int 50, .int 0, .int 0])), (l3, .inr (5, [.int 0, .ref (E 0), .int 0])), (l4, .inr (5, [.int 0, .ref (E 0), .int 0])), (x, .inr (21, [.ref s0, .int 0]))] := hD
    have hK : va_K (dC, dI) vwCl [] s := hK
    refine W.widen (k := 0) (n := 0) (Nat.le_of_ble_eq_true rfl) (Nat.le_of_ble_eq_true rfl) ?_
    refine lv_if_ne (tgt := 95) hx hb dX15_send_59 (by decide) (fun c9 => absurd (by decide) c9) (fun _ => ?_)
    refine lv_aload_n hx hb dX15_send_62 rfl (lv_at hl 1 rfl) ?_
    refine lv_iload_n hx hb dX15_send_63 rfl (lv_at hl 2 rfl) ?_
    refine lv_bipush (v := 110) hx hb dX15_send_64 (by decide) ?_
    refine lv_icmp_eq (tgt := 75) hx hb dX15_send_66 (by decide) (fun c_8 => ?_) (fun c_8 => ?_)
    · refine lv_aload_n hx hb dX15_send_75 rfl (lv_at hl 1 rfl) ?_
      refine lv_iload_n hx hb dX15_send_76 rfl (lv_at hl 3 rfl) ?_
      have hPc := hP.sub (ws' := [(x, .inr (21, [.ref s0, .int 0])), (s0, .inr (20, [.ref l0, .ref l1, .ref l2, .ref l3, .ref l4, .ref l5, .ref l6, .ref l7, .ref l8, .int 10, .int 100, .int 50, .int 0, .int 0])), (l4, .inr (5, [.int 0, .ref (E 0), .int 0]))]) [3, 0, 2] rfl
      have hDc := hD.sub (ws' := [(x, .inr (21, [.ref s0, .int 0])), (s0, .inr (20, [.ref l0, .ref l1, .ref l2, .ref l3, .ref l4, .ref l5, .ref l6, .ref l7, .ref l8, .int 10, .int 100, .int 50, .int 0, .int 0])), (l4, .inr (5, [.int 0, .ref (E 0), .int 0]))]) [3, 0, 2] (by decide) rfl
      have hKc := hK.sub (tys' := []) [] rfl
      have hFc := va_free (wc := [(x, .inr (21, [.ref s0, .int 0])), (s0, .inr (20, [.ref l0, .ref l1, .ref l2, .ref l3, .ref l4, .ref l5, .ref l6, .ref l7, .ref l8, .int 10, .int 100, .int 50, .int 0, .int 0])), (l4, .inr (5, [.int 0, .ref (E 0), .int 0]))]) hD hS hA [3, 0, 2] rfl
      refine va_calli (va_runV (As := [.int a]) (rest := [.ref x]) ⟨hx, hb, hml, hown, hts⟩ (c_rm_isDevice l dC dI E x s0 l0 l1 l2 l3 l4 l5 l6 l7 l8 0 a H.size) (cwV 1 hts gX15_send_X15_isDevice rfl rfl rfl (by decide +kernel) ⟨(Nat.le_of_ble_eq_true rfl), (Nat.le_of_ble_eq_true rfl)⟩) ⟨pre_blind, va_recv hKc hPc (ci := 21) (q0 := 0) rfl rfl, pre_call hPc hDc hKc hFc hE hZ hS⟩ rfl rfl hl.1 rfl (lv_room (Nat.le_of_ble_eq_true rfl)) dX15_send_77 ⟨(Nat.le_of_ble_eq_true rfl), (Nat.le_of_ble_eq_true rfl)⟩) hS (fun q _ h => hFc q h) hFc (fun r u t H1 locs1 ht hvm hw hB hz1 hk1 hS => ?_)
      have hw9 : r = 0 := hw
      rw [hw9]
      obtain ⟨hP, hD, hK⟩ := pst_join (wc := [(x, .inr (21, [.ref s0, .int 0])), (s0, .inr (20, [.ref l0, .ref l1, .ref l2, .ref l3, .ref l4, .ref l5, .ref l6, .ref l7, .ref l8, .int 10, .int 100, .int 50, .int 0, .int 0])), (l4, .inr (5, [.int 0, .ref (E 0), .int 0]))]) (wr := [(l3, .inr (5, [.int 0, .ref (E 0), .int 0]))]) (w1 := [(x, .inr (21, [.ref s0, .int 0])), (s0, .inr (20, [.ref l0, .ref l1, .ref l2, .ref l3, .ref l4, .ref l5, .ref l6, .ref l7, .ref l8, .int 10, .int 100, .int 50, .int 0, .int 0])), (l4, .inr (5, [.int 0, .ref (E 0), .int 0]))]) (tr := []) (t1 := []) hP hD hK [3, 0, 2] [1] [] rfl rfl rfl (by decide) (by decide) hk1 hFc ht hvm hB
      generalize H1 = H at hP hS ⊢
      have hP : va_P (dC, dI) vwCl [(l3, .inr (5, [.int 0, .ref (E 0), .int 0])), (x, .inr (21, [.ref s0, .int 0])), (s0, .inr (20, [.ref l0, .ref l1, .ref l2, .ref l3, .ref l4, .ref l5, .ref l6, .ref l7, .ref l8, .int 10, .int 100, .int 50, .int 0, .int 0])), (l4, .inr (5, [.int 0, .ref (E 0), .int 0]))] H := hP
      have hD : va_D A [(l3, .inr (5, [.int 0, .ref (E 0), .int 0])), (x, .inr (21, [.ref s0, .int 0])), (s0, .inr (20, [.ref l0, .ref l1, .ref l2, .ref l3, .ref l4, .ref l5, .ref l6, .ref l7, .ref l8, .int 10, .int 100, .int 50, .int 0, .int 0])), (l4, .inr (5, [.int 0, .ref (E 0), .int 0]))] := hD
      have hK : va_K (dC, dI) vwCl [] s := hK
      refine W.widen (k := 0) (n := 0) (Nat.le_of_ble_eq_true rfl) (Nat.le_of_ble_eq_true rfl) ?_
      refine lv_goto (tgt := 88) hx hb dX15_send_80 (by decide) ?_
      refine lv_iconst (v := 2) hx hb dX15_send_88 (by decide) ?_
      have hPc := hP.sub (ws' := [(x, .inr (21, [.ref s0, .int 0]))]) [1] rfl
      have hDc := hD.sub (ws' := [(x, .inr (21, [.ref s0, .int 0]))]) [1] (by decide) rfl
      have hKc := hK.sub (tys' := []) [] rfl
      have hFc := va_free (wc := [(x, .inr (21, [.ref s0, .int 0]))]) hD hS hA [1] rfl
      refine va_calli (va_runV (As := [.int 0, .int 2]) (rest := []) ⟨hx, hb, hml, hown, hts⟩ (c_rm_no_0 l dC dI E x s0 0 2 H.size) (cwV 2 hts gX15_send_X15_no rfl rfl rfl (by decide +kernel) ⟨(Nat.le_of_ble_eq_true rfl), (Nat.le_of_ble_eq_true rfl)⟩) ⟨pre_blind, va_recv hKc hPc (ci := 21) (q0 := 0) rfl rfl, pre_call hPc hDc hKc hFc hE hZ hS⟩ rfl rfl hl.1 rfl (lv_room (Nat.le_of_ble_eq_true rfl)) dX15_send_89 ⟨(Nat.le_of_ble_eq_true rfl), (Nat.le_of_ble_eq_true rfl)⟩) hS (fun q _ h => hFc q h) hFc (fun r u t H1 locs1 ht hvm hw hB hz1 hk1 hS => ?_)
      have hw9 : r = 1 := hw
      rw [hw9]
      obtain ⟨hP, hD, hK⟩ := pst_join (wc := [(x, .inr (21, [.ref s0, .int 0]))]) (wr := [(l3, .inr (5, [.int 0, .ref (E 0), .int 0])), (s0, .inr (20, [.ref l0, .ref l1, .ref l2, .ref l3, .ref l4, .ref l5, .ref l6, .ref l7, .ref l8, .int 10, .int 100, .int 50, .int 0, .int 0])), (l4, .inr (5, [.int 0, .ref (E 0), .int 0]))]) (w1 := [(x, .inr (21, [.ref s0, .int 2]))]) (tr := []) (t1 := []) hP hD hK [1] [0, 2, 3] [] rfl rfl rfl (by decide) (by decide) hk1 hFc ht hvm hB
      generalize H1 = H at hP hS ⊢
      have hP : va_P (dC, dI) vwCl [(l3, .inr (5, [.int 0, .ref (E 0), .int 0])), (s0, .inr (20, [.ref l0, .ref l1, .ref l2, .ref l3, .ref l4, .ref l5, .ref l6, .ref l7, .ref l8, .int 10, .int 100, .int 50, .int 0, .int 0])), (l4, .inr (5, [.int 0, .ref (E 0), .int 0])), (x, .inr (21, [.ref s0, .int 2]))] H := hP
      have hD : va_D A [(l3, .inr (5, [.int 0, .ref (E 0), .int 0])), (s0, .inr (20, [.ref l0, .ref l1, .ref l2, .ref l3, .ref l4, .ref l5, .ref l6, .ref l7, .ref l8, .int 10, .int 100, .int 50, .int 0, .int 0])), (l4, .inr (5, [.int 0, .ref (E 0), .int 0])), (x, .inr (21, [.ref s0, .int 2]))] := hD
      have hK : va_K (dC, dI) vwCl [] s := hK
      refine W.widen (k := 0) (n := 0) (Nat.le_of_ble_eq_true rfl) (Nat.le_of_ble_eq_true rfl) ?_
      refine lv_if_eq (tgt := 97) hx hb dX15_send_92 (by decide) (fun c9 => absurd c9 (by decide)) (fun _ => ?_)
      refine lv_iconst (v := 0) hx hb dX15_send_95 (by decide) ?_
      have hP9 := hP.sub (ws' := [(x, .inr (21, [.ref s0, .int 2]))]) [3] rfl
      have hD9 := hD.sub (ws' := [(x, .inr (21, [.ref s0, .int 2]))]) [3] (by decide) rfl
      have hK9 := hK.sub (tys' := []) [] rfl
      refine W.widen (k := 0) (n := 0) (Nat.le_of_ble_eq_true rfl) (Nat.le_of_ble_eq_true rfl) ?_
      exact W.iret (v := 0) hx hb hr (fun t ht hW => ⟨⟨0, (), rfl, rfl, pst_of hP9 hD9 hK9 ht hW⟩, hS.F ht⟩) hS.2.2 dX15_send_96
    · refine lv_iload_n hx hb dX15_send_69 rfl (lv_at hl 2 rfl) ?_
      refine lv_bipush (v := 102) hx hb dX15_send_70 (by decide) ?_
      refine lv_icmp_ne (tgt := 83) hx hb dX15_send_72 (by decide) (fun c_12 => ?_) (fun c_12 => ?_)
      · refine lv_aload_n hx hb dX15_send_83 rfl (lv_at hl 1 rfl) ?_
        refine lv_iload_n hx hb dX15_send_84 rfl (lv_at hl 3 rfl) ?_
        have hPc := hP.sub (ws' := [(x, .inr (21, [.ref s0, .int 0])), (s0, .inr (20, [.ref l0, .ref l1, .ref l2, .ref l3, .ref l4, .ref l5, .ref l6, .ref l7, .ref l8, .int 10, .int 100, .int 50, .int 0, .int 0])), (l3, .inr (5, [.int 0, .ref (E 0), .int 0]))]) [3, 0, 1] rfl
        have hDc := hD.sub (ws' := [(x, .inr (21, [.ref s0, .int 0])), (s0, .inr (20, [.ref l0, .ref l1, .ref l2, .ref l3, .ref l4, .ref l5, .ref l6, .ref l7, .ref l8, .int 10, .int 100, .int 50, .int 0, .int 0])), (l3, .inr (5, [.int 0, .ref (E 0), .int 0]))]) [3, 0, 1] (by decide) rfl
        have hKc := hK.sub (tys' := []) [] rfl
        have hFc := va_free (wc := [(x, .inr (21, [.ref s0, .int 0])), (s0, .inr (20, [.ref l0, .ref l1, .ref l2, .ref l3, .ref l4, .ref l5, .ref l6, .ref l7, .ref l8, .int 10, .int 100, .int 50, .int 0, .int 0])), (l3, .inr (5, [.int 0, .ref (E 0), .int 0]))]) hD hS hA [3, 0, 1] rfl
        refine va_calli (va_runV (As := [.int a]) (rest := [.ref x]) ⟨hx, hb, hml, hown, hts⟩ (c_rm_isHatch l dC dI E x s0 l0 l1 l2 l3 l4 l5 l6 l7 l8 0 a H.size) (cwV 1 hts gX15_send_X15_isHatch rfl rfl rfl (by decide +kernel) ⟨(Nat.le_of_ble_eq_true rfl), (Nat.le_of_ble_eq_true rfl)⟩) ⟨pre_blind, va_recv hKc hPc (ci := 21) (q0 := 0) rfl rfl, pre_call hPc hDc hKc hFc hE hZ hS⟩ rfl rfl hl.1 rfl (lv_room (Nat.le_of_ble_eq_true rfl)) dX15_send_85 ⟨(Nat.le_of_ble_eq_true rfl), (Nat.le_of_ble_eq_true rfl)⟩) hS (fun q _ h => hFc q h) hFc (fun r u t H1 locs1 ht hvm hw hB hz1 hk1 hS => ?_)
        have hw9 : r = 0 := hw
        rw [hw9]
        obtain ⟨hP, hD, hK⟩ := pst_join (wc := [(x, .inr (21, [.ref s0, .int 0])), (s0, .inr (20, [.ref l0, .ref l1, .ref l2, .ref l3, .ref l4, .ref l5, .ref l6, .ref l7, .ref l8, .int 10, .int 100, .int 50, .int 0, .int 0])), (l3, .inr (5, [.int 0, .ref (E 0), .int 0]))]) (wr := [(l4, .inr (5, [.int 0, .ref (E 0), .int 0]))]) (w1 := [(x, .inr (21, [.ref s0, .int 0])), (s0, .inr (20, [.ref l0, .ref l1, .ref l2, .ref l3, .ref l4, .ref l5, .ref l6, .ref l7, .ref l8, .int 10, .int 100, .int 50, .int 0, .int 0])), (l3, .inr (5, [.int 0, .ref (E 0), .int 0]))]) (tr := []) (t1 := []) hP hD hK [3, 0, 1] [2] [] rfl rfl rfl (by decide) (by decide) hk1 hFc ht hvm hB
        generalize H1 = H at hP hS ⊢
        have hP : va_P (dC, dI) vwCl [(l4, .inr (5, [.int 0, .ref (E 0), .int 0])), (x, .inr (21, [.ref s0, .int 0])), (s0, .inr (20, [.ref l0, .ref l1, .ref l2, .ref l3, .ref l4, .ref l5, .ref l6, .ref l7, .ref l8, .int 10, .int 100, .int 50, .int 0, .int 0])), (l3, .inr (5, [.int 0, .ref (E 0), .int 0]))] H := hP
        have hD : va_D A [(l4, .inr (5, [.int 0, .ref (E 0), .int 0])), (x, .inr (21, [.ref s0, .int 0])), (s0, .inr (20, [.ref l0, .ref l1, .ref l2, .ref l3, .ref l4, .ref l5, .ref l6, .ref l7, .ref l8, .int 10, .int 100, .int 50, .int 0, .int 0])), (l3, .inr (5, [.int 0, .ref (E 0), .int 0]))] := hD
        have hK : va_K (dC, dI) vwCl [] s := hK
        refine W.widen (k := 0) (n := 0) (Nat.le_of_ble_eq_true rfl) (Nat.le_of_ble_eq_true rfl) ?_
        refine lv_iconst (v := 2) hx hb dX15_send_88 (by decide) ?_
        have hPc := hP.sub (ws' := [(x, .inr (21, [.ref s0, .int 0]))]) [1] rfl
        have hDc := hD.sub (ws' := [(x, .inr (21, [.ref s0, .int 0]))]) [1] (by decide) rfl
        have hKc := hK.sub (tys' := []) [] rfl
        have hFc := va_free (wc := [(x, .inr (21, [.ref s0, .int 0]))]) hD hS hA [1] rfl
        refine va_calli (va_runV (As := [.int 0, .int 2]) (rest := []) ⟨hx, hb, hml, hown, hts⟩ (c_rm_no_0 l dC dI E x s0 0 2 H.size) (cwV 2 hts gX15_send_X15_no rfl rfl rfl (by decide +kernel) ⟨(Nat.le_of_ble_eq_true rfl), (Nat.le_of_ble_eq_true rfl)⟩) ⟨pre_blind, va_recv hKc hPc (ci := 21) (q0 := 0) rfl rfl, pre_call hPc hDc hKc hFc hE hZ hS⟩ rfl rfl hl.1 rfl (lv_room (Nat.le_of_ble_eq_true rfl)) dX15_send_89 ⟨(Nat.le_of_ble_eq_true rfl), (Nat.le_of_ble_eq_true rfl)⟩) hS (fun q _ h => hFc q h) hFc (fun r u t H1 locs1 ht hvm hw hB hz1 hk1 hS => ?_)
        have hw9 : r = 1 := hw
        rw [hw9]
        obtain ⟨hP, hD, hK⟩ := pst_join (wc := [(x, .inr (21, [.ref s0, .int 0]))]) (wr := [(l4, .inr (5, [.int 0, .ref (E 0), .int 0])), (s0, .inr (20, [.ref l0, .ref l1, .ref l2, .ref l3, .ref l4, .ref l5, .ref l6, .ref l7, .ref l8, .int 10, .int 100, .int 50, .int 0, .int 0])), (l3, .inr (5, [.int 0, .ref (E 0), .int 0]))]) (w1 := [(x, .inr (21, [.ref s0, .int 2]))]) (tr := []) (t1 := []) hP hD hK [1] [0, 2, 3] [] rfl rfl rfl (by decide) (by decide) hk1 hFc ht hvm hB
        generalize H1 = H at hP hS ⊢
        have hP : va_P (dC, dI) vwCl [(l4, .inr (5, [.int 0, .ref (E 0), .int 0])), (s0, .inr (20, [.ref l0, .ref l1, .ref l2, .ref l3, .ref l4, .ref l5, .ref l6, .ref l7, .ref l8, .int 10, .int 100, .int 50, .int 0, .int 0])), (l3, .inr (5, [.int 0, .ref (E 0), .int 0])), (x, .inr (21, [.ref s0, .int 2]))] H := hP
        have hD : va_D A [(l4, .inr (5, [.int 0, .ref (E 0), .int 0])), (s0, .inr (20, [.ref l0, .ref l1, .ref l2, .ref l3, .ref l4, .ref l5, .ref l6, .ref l7, .ref l8, .int 10, .int 100, .int 50, .int 0, .int 0])), (l3, .inr (5, [.int 0, .ref (E 0), .int 0])), (x, .inr (21, [.ref s0, .int 2]))] := hD
        have hK : va_K (dC, dI) vwCl [] s := hK
        refine W.widen (k := 0) (n := 0) (Nat.le_of_ble_eq_true rfl) (Nat.le_of_ble_eq_true rfl) ?_
        refine lv_if_eq (tgt := 97) hx hb dX15_send_92 (by decide) (fun c9 => absurd c9 (by decide)) (fun _ => ?_)
        refine lv_iconst (v := 0) hx hb dX15_send_95 (by decide) ?_
        have hP9 := hP.sub (ws' := [(x, .inr (21, [.ref s0, .int 2]))]) [3] rfl
        have hD9 := hD.sub (ws' := [(x, .inr (21, [.ref s0, .int 2]))]) [3] (by decide) rfl
        have hK9 := hK.sub (tys' := []) [] rfl
        refine W.widen (k := 0) (n := 0) (Nat.le_of_ble_eq_true rfl) (Nat.le_of_ble_eq_true rfl) ?_
        exact W.iret (v := 0) hx hb hr (fun t ht hW => ⟨⟨0, (), rfl, rfl, pst_of hP9 hD9 hK9 ht hW⟩, hS.F ht⟩) hS.2.2 dX15_send_96
      · refine lv_aload_n hx hb dX15_send_75 rfl (lv_at hl 1 rfl) ?_
        refine lv_iload_n hx hb dX15_send_76 rfl (lv_at hl 3 rfl) ?_
        have hPc := hP.sub (ws' := [(x, .inr (21, [.ref s0, .int 0])), (s0, .inr (20, [.ref l0, .ref l1, .ref l2, .ref l3, .ref l4, .ref l5, .ref l6, .ref l7, .ref l8, .int 10, .int 100, .int 50, .int 0, .int 0])), (l4, .inr (5, [.int 0, .ref (E 0), .int 0]))]) [3, 0, 2] rfl
        have hDc := hD.sub (ws' := [(x, .inr (21, [.ref s0, .int 0])), (s0, .inr (20, [.ref l0, .ref l1, .ref l2, .ref l3, .ref l4, .ref l5, .ref l6, .ref l7, .ref l8, .int 10, .int 100, .int 50, .int 0, .int 0])), (l4, .inr (5, [.int 0, .ref (E 0), .int 0]))]) [3, 0, 2] (by decide) rfl
        have hKc := hK.sub (tys' := []) [] rfl
        have hFc := va_free (wc := [(x, .inr (21, [.ref s0, .int 0])), (s0, .inr (20, [.ref l0, .ref l1, .ref l2, .ref l3, .ref l4, .ref l5, .ref l6, .ref l7, .ref l8, .int 10, .int 100, .int 50, .int 0, .int 0])), (l4, .inr (5, [.int 0, .ref (E 0), .int 0]))]) hD hS hA [3, 0, 2] rfl
        refine va_calli (va_runV (As := [.int a]) (rest := [.ref x]) ⟨hx, hb, hml, hown, hts⟩ (c_rm_isDevice l dC dI E x s0 l0 l1 l2 l3 l4 l5 l6 l7 l8 0 a H.size) (cwV 1 hts gX15_send_X15_isDevice rfl rfl rfl (by decide +kernel) ⟨(Nat.le_of_ble_eq_true rfl), (Nat.le_of_ble_eq_true rfl)⟩) ⟨pre_blind, va_recv hKc hPc (ci := 21) (q0 := 0) rfl rfl, pre_call hPc hDc hKc hFc hE hZ hS⟩ rfl rfl hl.1 rfl (lv_room (Nat.le_of_ble_eq_true rfl)) dX15_send_77 ⟨(Nat.le_of_ble_eq_true rfl), (Nat.le_of_ble_eq_true rfl)⟩) hS (fun q _ h => hFc q h) hFc (fun r u t H1 locs1 ht hvm hw hB hz1 hk1 hS => ?_)
        have hw9 : r = 0 := hw
        rw [hw9]
        obtain ⟨hP, hD, hK⟩ := pst_join (wc := [(x, .inr (21, [.ref s0, .int 0])), (s0, .inr (20, [.ref l0, .ref l1, .ref l2, .ref l3, .ref l4, .ref l5, .ref l6, .ref l7, .ref l8, .int 10, .int 100, .int 50, .int 0, .int 0])), (l4, .inr (5, [.int 0, .ref (E 0), .int 0]))]) (wr := [(l3, .inr (5, [.int 0, .ref (E 0), .int 0]))]) (w1 := [(x, .inr (21, [.ref s0, .int 0])), (s0, .inr (20, [.ref l0, .ref l1, .ref l2, .ref l3, .ref l4, .ref l5, .ref l6, .ref l7, .ref l8, .int 10, .int 100, .int 50, .int 0, .int 0])), (l4, .inr (5, [.int 0, .ref (E 0), .int 0]))]) (tr := []) (t1 := []) hP hD hK [3, 0, 2] [1] [] rfl rfl rfl (by decide) (by decide) hk1 hFc ht hvm hB
        generalize H1 = H at hP hS ⊢
        have hP : va_P (dC, dI) vwCl [(l3, .inr (5, [.int 0, .ref (E 0), .int 0])), (x, .inr (21, [.ref s0, .int 0])), (s0, .inr (20, [.ref l0, .ref l1, .ref l2, .ref l3, .ref l4, .ref l5, .ref l6, .ref l7, .ref l8, .int 10, .int 100, .int 50, .int 0, .int 0])), (l4, .inr (5, [.int 0, .ref (E 0), .int 0]))] H := hP
        have hD : va_D A [(l3, .inr (5, [.int 0, .ref (E 0), .int 0])), (x, .inr (21, [.ref s0, .int 0])), (s0, .inr (20, [.ref l0, .ref l1, .ref l2, .ref l3, .ref l4, .ref l5, .ref l6, .ref l7, .ref l8, .int 10, .int 100, .int 50, .int 0, .int 0])), (l4, .inr (5, [.int 0, .ref (E 0), .int 0]))] := hD
        have hK : va_K (dC, dI) vwCl [] s := hK
        refine W.widen (k := 0) (n := 0) (Nat.le_of_ble_eq_true rfl) (Nat.le_of_ble_eq_true rfl) ?_
        refine lv_goto (tgt := 88) hx hb dX15_send_80 (by decide) ?_
        refine lv_iconst (v := 2) hx hb dX15_send_88 (by decide) ?_
        have hPc := hP.sub (ws' := [(x, .inr (21, [.ref s0, .int 0]))]) [1] rfl
        have hDc := hD.sub (ws' := [(x, .inr (21, [.ref s0, .int 0]))]) [1] (by decide) rfl
        have hKc := hK.sub (tys' := []) [] rfl
        have hFc := va_free (wc := [(x, .inr (21, [.ref s0, .int 0]))]) hD hS hA [1] rfl
        refine va_calli (va_runV (As := [.int 0, .int 2]) (rest := []) ⟨hx, hb, hml, hown, hts⟩ (c_rm_no_0 l dC dI E x s0 0 2 H.size) (cwV 2 hts gX15_send_X15_no rfl rfl rfl (by decide +kernel) ⟨(Nat.le_of_ble_eq_true rfl), (Nat.le_of_ble_eq_true rfl)⟩) ⟨pre_blind, va_recv hKc hPc (ci := 21) (q0 := 0) rfl rfl, pre_call hPc hDc hKc hFc hE hZ hS⟩ rfl rfl hl.1 rfl (lv_room (Nat.le_of_ble_eq_true rfl)) dX15_send_89 ⟨(Nat.le_of_ble_eq_true rfl), (Nat.le_of_ble_eq_true rfl)⟩) hS (fun q _ h => hFc q h) hFc (fun r u t H1 locs1 ht hvm hw hB hz1 hk1 hS => ?_)
        have hw9 : r = 1 := hw
        rw [hw9]
        obtain ⟨hP, hD, hK⟩ := pst_join (wc := [(x, .inr (21, [.ref s0, .int 0]))]) (wr := [(l3, .inr (5, [.int 0, .ref (E 0), .int 0])), (s0, .inr (20, [.ref l0, .ref l1, .ref l2, .ref l3, .ref l4, .ref l5, .ref l6, .ref l7, .ref l8, .int 10, .int 100, .int 50, .int 0, .int 0])), (l4, .inr (5, [.int 0, .ref (E 0), .int 0]))]) (w1 := [(x, .inr (21, [.ref s0, .int 2]))]) (tr := []) (t1 := []) hP hD hK [1] [0, 2, 3] [] rfl rfl rfl (by decide) (by decide) hk1 hFc ht hvm hB
        generalize H1 = H at hP hS ⊢
        have hP : va_P (dC, dI) vwCl [(l3, .inr (5, [.int 0, .ref (E 0), .int 0])), (s0, .inr (20, [.ref l0, .ref l1, .ref l2, .ref l3, .ref l4, .ref l5, .ref l6, .ref l7, .ref l8, .int 10, .int 100, .int 50, .int 0, .int 0])), (l4, .inr (5, [.int 0, .ref (E 0), .int 0])), (x, .inr (21, [.ref s0, .int 2]))] H := hP
        have hD : va_D A [(l3, .inr (5, [.int 0, .ref (E 0), .int 0])), (s0, .inr (20, [.ref l0, .ref l1, .ref l2, .ref l3, .ref l4, .ref l5, .ref l6, .ref l7, .ref l8, .int 10, .int 100, .int 50, .int 0, .int 0])), (l4, .inr (5, [.int 0, .ref (E 0), .int 0])), (x, .inr (21, [.ref s0, .int 2]))] := hD
        have hK : va_K (dC, dI) vwCl [] s := hK
        refine W.widen (k := 0) (n := 0) (Nat.le_of_ble_eq_true rfl) (Nat.le_of_ble_eq_true rfl) ?_
        refine lv_if_eq (tgt := 97) hx hb dX15_send_92 (by decide) (fun c9 => absurd c9 (by decide)) (fun _ => ?_)
        refine lv_iconst (v := 0) hx hb dX15_send_95 (by decide) ?_
        have hP9 := hP.sub (ws' := [(x, .inr (21, [.ref s0, .int 2]))]) [3] rfl
        have hD9 := hD.sub (ws' := [(x, .inr (21, [.ref s0, .int 2]))]) [3] (by decide) rfl
        have hK9 := hK.sub (tys' := []) [] rfl
        refine W.widen (k := 0) (n := 0) (Nat.le_of_ble_eq_true rfl) (Nat.le_of_ble_eq_true rfl) ?_
        exact W.iret (v := 0) hx hb hr (fun t ht hW => ⟨⟨0, (), rfl, rfl, pst_of hP9 hD9 hK9 ht hW⟩, hS.F ht⟩) hS.2.2 dX15_send_96
  · refine lv_iload_n hx hb dX15_send_6 rfl (lv_at hl 1 rfl) ?_
    refine lv_bipush (v := 102) hx hb dX15_send_7 (by decide) ?_
    refine lv_icmp_eq (tgt := 24) hx hb dX15_send_9 (by decide) (fun c_19 => ?_) (fun c_19 => ?_)
    · refine lv_iload_n hx hb dX15_send_24 rfl (lv_at hl 3 rfl) ?_
      refine lv_iconst (v := 1) hx hb dX15_send_25 (by decide) ?_
      refine lv_bipush (v := 99) hx hb dX15_send_26 (by decide) ?_
      have hPc := hP.sub (ws' := []) [] rfl
      have hDc := hD.sub (ws' := []) [] (by decide) rfl
      have hKc := hK.sub (tys' := []) [] rfl
      have hFc := va_free (wc := []) hD hS hA [] rfl
      refine va_calli (va_runS (As := [.int b, .int 1, .int 99]) (rest := []) ⟨hx, hb, hml, hown, hts⟩ (c_rm_isIn_y l dC dI E b 1 99 s.heap.size hla1 hua1) (va_cwS 3 hts gX15_send_X15_isIn rfl rfl rfl (by decide +kernel) ⟨(Nat.le_of_ble_eq_true rfl), (Nat.le_of_ble_eq_true rfl)⟩) ⟨pre_blind, pre_call hPc hDc hKc hFc hE hZ hS⟩ rfl rfl hl.1 rfl (lv_room (Nat.le_of_ble_eq_true rfl)) dX15_send_28 ⟨(Nat.le_of_ble_eq_true rfl), (Nat.le_of_ble_eq_true rfl)⟩) hS (fun q _ h => hFc q h) hFc (fun r u t H1 locs1 ht hvm hw hB hz1 hk1 hS => ?_)
      have hw9 : r = 1 := hw
      rw [hw9]
      obtain ⟨hP, hD, hK⟩ := pst_join (wc := []) (wr := [(x, .inr (21, [.ref s0, .int th])), (s0, .inr (20, [.ref l0, .ref l1, .ref l2, .ref l3, .ref l4, .ref l5, .ref l6, .ref l7, .ref l8, .int 10, .int 100, .int 50, .int 0, .int 0])), (l3, .inr (5, [.int 0, .ref (E 0), .int 0])), (l4, .inr (5, [.int 0, .ref (E 0), .int 0]))]) (w1 := []) (tr := []) (t1 := []) hP hD hK [] [0, 1, 2, 3] [] rfl rfl rfl (by decide) (by decide) hk1 hFc ht hvm hB
      generalize H1 = H at hP hS ⊢
      have hP : va_P (dC, dI) vwCl [(x, .inr (21, [.ref s0, .int th])), (s0, .inr (20, [.ref l0, .ref l1, .ref l2, .ref l3, .ref l4, .ref l5, .ref l6, .ref l7, .ref l8, .int 10, .int 100, .int 50, .int 0, .int 0])), (l3, .inr (5, [.int 0, .ref (E 0), .int 0])), (l4, .inr (5, [.int 0, .ref (E 0), .int 0]))] H := hP
      have hD : va_D A [(x, .inr (21, [.ref s0, .int th])), (s0, .inr (20, [.ref l0, .ref l1, .ref l2, .ref l3, .ref l4, .ref l5, .ref l6, .ref l7, .ref l8, .int 10, .int 100, .int 50, .int 0, .int 0])), (l3, .inr (5, [.int 0, .ref (E 0), .int 0])), (l4, .inr (5, [.int 0, .ref (E 0), .int 0]))] := hD
      have hK : va_K (dC, dI) vwCl [] s := hK
      refine W.widen (k := 0) (n := 0) (Nat.le_of_ble_eq_true rfl) (Nat.le_of_ble_eq_true rfl) ?_
      refine lv_if_eq (tgt := 49) hx hb dX15_send_31 (by decide) (fun c9 => absurd c9 (by decide)) (fun _ => ?_)
      refine lv_iload hx hb dX15_send_34 (lv_at hl 4 rfl) ?_
      refine lv_iconst (v := 0) hx hb dX15_send_36 (by decide) ?_
      refine lv_bipush (v := 99) hx hb dX15_send_37 (by decide) ?_
      have hPc := hP.sub (ws' := []) [] rfl
      have hDc := hD.sub (ws' := []) [] (by decide) rfl
      have hKc := hK.sub (tys' := []) [] rfl
      have hFc := va_free (wc := []) hD hS hA [] rfl
      refine va_calli (va_runS (As := [.int c4, .int 0, .int 99]) (rest := []) ⟨hx, hb, hml, hown, hts⟩ (c_rm_isIn_y l dC dI E c4 0 99 H.size hla2 hua2) (va_cwS 3 hts gX15_send_X15_isIn rfl rfl rfl (by decide +kernel) ⟨(Nat.le_of_ble_eq_true rfl), (Nat.le_of_ble_eq_true rfl)⟩) ⟨pre_blind, pre_call hPc hDc hKc hFc hE hZ hS⟩ rfl rfl hl.1 rfl (lv_room (Nat.le_of_ble_eq_true rfl)) dX15_send_39 ⟨(Nat.le_of_ble_eq_true rfl), (Nat.le_of_ble_eq_true rfl)⟩) hS (fun q _ h => hFc q h) hFc (fun r u t H1 locs1 ht hvm hw hB hz1 hk1 hS => ?_)
      have hw9 : r = 1 := hw
      rw [hw9]
      obtain ⟨hP, hD, hK⟩ := pst_join (wc := []) (wr := [(x, .inr (21, [.ref s0, .int th])), (s0, .inr (20, [.ref l0, .ref l1, .ref l2, .ref l3, .ref l4, .ref l5, .ref l6, .ref l7, .ref l8, .int 10, .int 100, .int 50, .int 0, .int 0])), (l3, .inr (5, [.int 0, .ref (E 0), .int 0])), (l4, .inr (5, [.int 0, .ref (E 0), .int 0]))]) (w1 := []) (tr := []) (t1 := []) hP hD hK [] [0, 1, 2, 3] [] rfl rfl rfl (by decide) (by decide) hk1 hFc ht hvm hB
      generalize H1 = H at hP hS ⊢
      have hP : va_P (dC, dI) vwCl [(x, .inr (21, [.ref s0, .int th])), (s0, .inr (20, [.ref l0, .ref l1, .ref l2, .ref l3, .ref l4, .ref l5, .ref l6, .ref l7, .ref l8, .int 10, .int 100, .int 50, .int 0, .int 0])), (l3, .inr (5, [.int 0, .ref (E 0), .int 0])), (l4, .inr (5, [.int 0, .ref (E 0), .int 0]))] H := hP
      have hD : va_D A [(x, .inr (21, [.ref s0, .int th])), (s0, .inr (20, [.ref l0, .ref l1, .ref l2, .ref l3, .ref l4, .ref l5, .ref l6, .ref l7, .ref l8, .int 10, .int 100, .int 50, .int 0, .int 0])), (l3, .inr (5, [.int 0, .ref (E 0), .int 0])), (l4, .inr (5, [.int 0, .ref (E 0), .int 0]))] := hD
      have hK : va_K (dC, dI) vwCl [] s := hK
      refine W.widen (k := 0) (n := 0) (Nat.le_of_ble_eq_true rfl) (Nat.le_of_ble_eq_true rfl) ?_
      refine lv_if_eq (tgt := 49) hx hb dX15_send_42 (by decide) (fun c9 => absurd c9 (by decide)) (fun _ => ?_)
      refine lv_iconst (v := 1) hx hb dX15_send_45 (by decide) ?_
      refine lv_goto (tgt := 50) hx hb dX15_send_46 (by decide) ?_
      refine lv_istore (lv' := [(5, .int 1), (0, .ref x), (1, .int k), (2, .int a), (3, .int b), (4, .int c4)]) hx hb dX15_send_50 hl (by decide) rfl (fun ls hl => ?_)
      refine lv_aload_n hx hb dX15_send_52 rfl (lv_at hl 1 rfl) ?_
      refine lv_iload hx hb dX15_send_53 (lv_at hl 0 rfl) ?_
      refine lv_iconst (v := 1) hx hb dX15_send_55 (by decide) ?_
      have hPc := hP.sub (ws' := [(x, .inr (21, [.ref s0, .int th]))]) [0] rfl
      have hDc := hD.sub (ws' := [(x, .inr (21, [.ref s0, .int th]))]) [0] (by decide) rfl
      have hKc := hK.sub (tys' := []) [] rfl
      have hFc := va_free (wc := [(x, .inr (21, [.ref s0, .int th]))]) hD hS hA [0] rfl
      refine va_calli (va_runV (As := [.int 1, .int 1]) (rest := []) ⟨hx, hb, hml, hown, hts⟩ (c_rm_no_1 l dC dI E x s0 th 1 H.size) (cwV 2 hts gX15_send_X15_no rfl rfl rfl (by decide +kernel) ⟨(Nat.le_of_ble_eq_true rfl), (Nat.le_of_ble_eq_true rfl)⟩) ⟨pre_blind, va_recv hKc hPc (ci := 21) (q0 := 0) rfl rfl, pre_call hPc hDc hKc hFc hE hZ hS⟩ rfl rfl hl.1 rfl (lv_room (Nat.le_of_ble_eq_true rfl)) dX15_send_56 ⟨(Nat.le_of_ble_eq_true rfl), (Nat.le_of_ble_eq_true rfl)⟩) hS (fun q _ h => hFc q h) hFc (fun r u t H1 locs1 ht hvm hw hB hz1 hk1 hS => ?_)
      have hw9 : r = 0 := hw
      rw [hw9]
      obtain ⟨hP, hD, hK⟩ := pst_join (wc := [(x, .inr (21, [.ref s0, .int th]))]) (wr := [(s0, .inr (20, [.ref l0, .ref l1, .ref l2, .ref l3, .ref l4, .ref l5, .ref l6, .ref l7, .ref l8, .int 10, .int 100, .int 50, .int 0, .int 0])), (l3, .inr (5, [.int 0, .ref (E 0), .int 0])), (l4, .inr (5, [.int 0, .ref (E 0), .int 0]))]) (w1 := [(x, .inr (21, [.ref s0, .int 0]))]) (tr := []) (t1 := []) hP hD hK [0] [1, 2, 3] [] rfl rfl rfl (by decide) (by decide) hk1 hFc ht hvm hB
      generalize H1 = H at hP hS ⊢
      have hP : va_P (dC, dI) vwCl [(s0, .inr (20, [.ref l0, .ref l1, .ref l2, .ref l3, .ref l4, .ref l5, .ref l6, .ref l7, .ref l8, .int 10, .int 100, .int 50, .int 0, .int 0])), (l3, .inr (5, [.int 0, .ref (E 0), .int 0])), (l4, .inr (5, [.int 0, .ref (E 0), .int 0])), (x, .inr (21, [.ref s0, .int 0]))] H := hP
      have hD : va_D A [(s0, .inr (20, [.ref l0, .ref l1, .ref l2, .ref l3, .ref l4, .ref l5, .ref l6, .ref l7, .ref l8, .int 10, .int 100, .int 50, .int 0, .int 0])), (l3, .inr (5, [.int 0, .ref (E 0), .int 0])), (l4, .inr (5, [.int 0, .ref (E 0), .int 0])), (x, .inr (21, [.ref s0, .int 0]))] := hD
      have hK : va_K (dC, dI) vwCl [] s := hK
      refine W.widen (k := 0) (n := 0) (Nat.le_of_ble_eq_true rfl) (Nat.le_of_ble_eq_true rfl) ?_
      refine lv_if_ne (tgt := 95) hx hb dX15_send_59 (by decide) (fun c9 => absurd (by decide) c9) (fun _ => ?_)
      refine lv_aload_n hx hb dX15_send_62 rfl (lv_at hl 1 rfl) ?_
      refine lv_iload_n hx hb dX15_send_63 rfl (lv_at hl 2 rfl) ?_
      refine lv_bipush (v := 110) hx hb dX15_send_64 (by decide) ?_
      refine lv_icmp_eq (tgt := 75) hx hb dX15_send_66 (by decide) (fun c_26 => ?_) (fun c_26 => ?_)
      · refine lv_aload_n hx hb dX15_send_75 rfl (lv_at hl 1 rfl) ?_
        refine lv_iload_n hx hb dX15_send_76 rfl (lv_at hl 3 rfl) ?_
        have hPc := hP.sub (ws' := [(x, .inr (21, [.ref s0, .int 0])), (s0, .inr (20, [.ref l0, .ref l1, .ref l2, .ref l3, .ref l4, .ref l5, .ref l6, .ref l7, .ref l8, .int 10, .int 100, .int 50, .int 0, .int 0])), (l4, .inr (5, [.int 0, .ref (E 0), .int 0]))]) [3, 0, 2] rfl
        have hDc := hD.sub (ws' := [(x, .inr (21, [.ref s0, .int 0])), (s0, .inr (20, [.ref l0, .ref l1, .ref l2, .ref l3, .ref l4, .ref l5, .ref l6, .ref l7, .ref l8, .int 10, .int 100, .int 50, .int 0, .int 0])), (l4, .inr (5, [.int 0, .ref (E 0), .int 0]))]) [3, 0, 2] (by decide) rfl
        have hKc := hK.sub (tys' := []) [] rfl
        have hFc := va_free (wc := [(x, .inr (21, [.ref s0, .int 0])), (s0, .inr (20, [.ref l0, .ref l1, .ref l2, .ref l3, .ref l4, .ref l5, .ref l6, .ref l7, .ref l8, .int 10, .int 100, .int 50, .int 0, .int 0])), (l4, .inr (5, [.int 0, .ref (E 0), .int 0]))]) hD hS hA [3, 0, 2] rfl
        refine va_calli (va_runV (As := [.int a]) (rest := [.ref x]) ⟨hx, hb, hml, hown, hts⟩ (c_rm_isDevice l dC dI E x s0 l0 l1 l2 l3 l4 l5 l6 l7 l8 0 a H.size) (cwV 1 hts gX15_send_X15_isDevice rfl rfl rfl (by decide +kernel) ⟨(Nat.le_of_ble_eq_true rfl), (Nat.le_of_ble_eq_true rfl)⟩) ⟨pre_blind, va_recv hKc hPc (ci := 21) (q0 := 0) rfl rfl, pre_call hPc hDc hKc hFc hE hZ hS⟩ rfl rfl hl.1 rfl (lv_room (Nat.le_of_ble_eq_true rfl)) dX15_send_77 ⟨(Nat.le_of_ble_eq_true rfl), (Nat.le_of_ble_eq_true rfl)⟩) hS (fun q _ h => hFc q h) hFc (fun r u t H1 locs1 ht hvm hw hB hz1 hk1 hS => ?_)
        have hw9 : r = 0 := hw
        rw [hw9]
        obtain ⟨hP, hD, hK⟩ := pst_join (wc := [(x, .inr (21, [.ref s0, .int 0])), (s0, .inr (20, [.ref l0, .ref l1, .ref l2, .ref l3, .ref l4, .ref l5, .ref l6, .ref l7, .ref l8, .int 10, .int 100, .int 50, .int 0, .int 0])), (l4, .inr (5, [.int 0, .ref (E 0), .int 0]))]) (wr := [(l3, .inr (5, [.int 0, .ref (E 0), .int 0]))]) (w1 := [(x, .inr (21, [.ref s0, .int 0])), (s0, .inr (20, [.ref l0, .ref l1, .ref l2, .ref l3, .ref l4, .ref l5, .ref l6, .ref l7, .ref l8, .int 10, .int 100, .int 50, .int 0, .int 0])), (l4, .inr (5, [.int 0, .ref (E 0), .int 0]))]) (tr := []) (t1 := []) hP hD hK [3, 0, 2] [1] [] rfl rfl rfl (by decide) (by decide) hk1 hFc ht hvm hB
        generalize H1 = H at hP hS ⊢
        have hP : va_P (dC, dI) vwCl [(l3, .inr (5, [.int 0, .ref (E 0), .int 0])), (x, .inr (21, [.ref s0, .int 0])), (s0, .inr (20, [.ref l0, .ref l1, .ref l2, .ref l3, .ref l4, .ref l5, .ref l6, .ref l7, .ref l8, .int 10, .int 100, .int 50, .int 0, .int 0])), (l4, .inr (5, [.int 0, .ref (E 0), .int 0]))] H := hP
        have hD : va_D A [(l3, .inr (5, [.int 0, .ref (E 0), .int 0])), (x, .inr (21, [.ref s0, .int 0])), (s0, .inr (20, [.ref l0, .ref l1, .ref l2, .ref l3, .ref l4, .ref l5, .ref l6, .ref l7, .ref l8, .int 10, .int 100, .int 50, .int 0, .int 0])), (l4, .inr (5, [.int 0, .ref (E 0), .int 0]))] := hD
        have hK : va_K (dC, dI) vwCl [] s := hK
        refine W.widen (k := 0) (n := 0) (Nat.le_of_ble_eq_true rfl) (Nat.le_of_ble_eq_true rfl) ?_
        refine lv_goto (tgt := 88) hx hb dX15_send_80 (by decide) ?_
        refine lv_iconst (v := 2) hx hb dX15_send_88 (by decide) ?_
        have hPc := hP.sub (ws' := [(x, .inr (21, [.ref s0, .int 0]))]) [1] rfl
        have hDc := hD.sub (ws' := [(x, .inr (21, [.ref s0, .int 0]))]) [1] (by decide) rfl
        have hKc := hK.sub (tys' := []) [] rfl
        have hFc := va_free (wc := [(x, .inr (21, [.ref s0, .int 0]))]) hD hS hA [1] rfl
        refine va_calli (va_runV (As := [.int 0, .int 2]) (rest := []) ⟨hx, hb, hml, hown, hts⟩ (c_rm_no_0 l dC dI E x s0 0 2 H.size) (cwV 2 hts gX15_send_X15_no rfl rfl rfl (by decide +kernel) ⟨(Nat.le_of_ble_eq_true rfl), (Nat.le_of_ble_eq_true rfl)⟩) ⟨pre_blind, va_recv hKc hPc (ci := 21) (q0 := 0) rfl rfl, pre_call hPc hDc hKc hFc hE hZ hS⟩ rfl rfl hl.1 rfl (lv_room (Nat.le_of_ble_eq_true rfl)) dX15_send_89 ⟨(Nat.le_of_ble_eq_true rfl), (Nat.le_of_ble_eq_true rfl)⟩) hS (fun q _ h => hFc q h) hFc (fun r u t H1 locs1 ht hvm hw hB hz1 hk1 hS => ?_)
        have hw9 : r = 1 := hw
        rw [hw9]
        obtain ⟨hP, hD, hK⟩ := pst_join (wc := [(x, .inr (21, [.ref s0, .int 0]))]) (wr := [(l3, .inr (5, [.int 0, .ref (E 0), .int 0])), (s0, .inr (20, [.ref l0, .ref l1, .ref l2, .ref l3, .ref l4, .ref l5, .ref l6, .ref l7, .ref l8, .int 10, .int 100, .int 50, .int 0, .int 0])), (l4, .inr (5, [.int 0, .ref (E 0), .int 0]))]) (w1 := [(x, .inr (21, [.ref s0, .int 2]))]) (tr := []) (t1 := []) hP hD hK [1] [0, 2, 3] [] rfl rfl rfl (by decide) (by decide) hk1 hFc ht hvm hB
        generalize H1 = H at hP hS ⊢
        have hP : va_P (dC, dI) vwCl [(l3, .inr (5, [.int 0, .ref (E 0), .int 0])), (s0, .inr (20, [.ref l0, .ref l1, .ref l2, .ref l3, .ref l4, .ref l5, .ref l6, .ref l7, .ref l8, .int 10, .int 100, .int 50, .int 0, .int 0])), (l4, .inr (5, [.int 0, .ref (E 0), .int 0])), (x, .inr (21, [.ref s0, .int 2]))] H := hP
        have hD : va_D A [(l3, .inr (5, [.int 0, .ref (E 0), .int 0])), (s0, .inr (20, [.ref l0, .ref l1, .ref l2, .ref l3, .ref l4, .ref l5, .ref l6, .ref l7, .ref l8, .int 10, .int 100, .int 50, .int 0, .int 0])), (l4, .inr (5, [.int 0, .ref (E 0), .int 0])), (x, .inr (21, [.ref s0, .int 2]))] := hD
        have hK : va_K (dC, dI) vwCl [] s := hK
        refine W.widen (k := 0) (n := 0) (Nat.le_of_ble_eq_true rfl) (Nat.le_of_ble_eq_true rfl) ?_
        refine lv_if_eq (tgt := 97) hx hb dX15_send_92 (by decide) (fun c9 => absurd c9 (by decide)) (fun _ => ?_)
        refine lv_iconst (v := 0) hx hb dX15_send_95 (by decide) ?_
        have hP9 := hP.sub (ws' := [(x, .inr (21, [.ref s0, .int 2]))]) [3] rfl
        have hD9 := hD.sub (ws' := [(x, .inr (21, [.ref s0, .int 2]))]) [3] (by decide) rfl
        have hK9 := hK.sub (tys' := []) [] rfl
        refine W.widen (k := 0) (n := 0) (Nat.le_of_ble_eq_true rfl) (Nat.le_of_ble_eq_true rfl) ?_
        exact W.iret (v := 0) hx hb hr (fun t ht hW => ⟨⟨0, (), rfl, rfl, pst_of hP9 hD9 hK9 ht hW⟩, hS.F ht⟩) hS.2.2 dX15_send_96
      · refine lv_iload_n hx hb dX15_send_69 rfl (lv_at hl 2 rfl) ?_
        refine lv_bipush (v := 102) hx hb dX15_send_70 (by decide) ?_
        refine lv_icmp_ne (tgt := 83) hx hb dX15_send_72 (by decide) (fun c_30 => ?_) (fun c_30 => ?_)
        · refine lv_aload_n hx hb dX15_send_83 rfl (lv_at hl 1 rfl) ?_
          refine lv_iload_n hx hb dX15_send_84 rfl (lv_at hl 3 rfl) ?_
          have hPc := hP.sub (ws' := [(x, .inr (21, [.ref s0, .int 0])), (s0, .inr (20, [.ref l0, .ref l1, .ref l2, .ref l3, .ref l4, .ref l5, .ref l6, .ref l7, .ref l8, .int 10, .int 100, .int 50, .int 0, .int 0])), (l3, .inr (5, [.int 0, .ref (E 0), .int 0]))]) [3, 0, 1] rfl
          have hDc := hD.sub (ws' := [(x, .inr (21, [.ref s0, .int 0])), (s0, .inr (20, [.ref l0, .ref l1, .ref l2, .ref l3, .ref l4, .ref l5, .ref l6, .ref l7, .ref l8, .int 10, .int 100, .int 50, .int 0, .int 0])), (l3, .inr (5, [.int 0, .ref (E 0), .int 0]))]) [3, 0, 1] (by decide) rfl
          have hKc := hK.sub (tys' := []) [] rfl
          have hFc := va_free (wc := [(x, .inr (21, [.ref s0, .int 0])), (s0, .inr (20, [.ref l0, .ref l1, .ref l2, .ref l3, .ref l4, .ref l5, .ref l6, .ref l7, .ref l8, .int 10, .int 100, .int 50, .int 0, .int 0])), (l3, .inr (5, [.int 0, .ref (E 0), .int 0]))]) hD hS hA [3, 0, 1] rfl
          refine va_calli (va_runV (As := [.int a]) (rest := [.ref x]) ⟨hx, hb, hml, hown, hts⟩ (c_rm_isHatch l dC dI E x s0 l0 l1 l2 l3 l4 l5 l6 l7 l8 0 a H.size) (cwV 1 hts gX15_send_X15_isHatch rfl rfl rfl (by decide +kernel) ⟨(Nat.le_of_ble_eq_true rfl), (Nat.le_of_ble_eq_true rfl)⟩) ⟨pre_blind, va_recv hKc hPc (ci := 21) (q0 := 0) rfl rfl, pre_call hPc hDc hKc hFc hE hZ hS⟩ rfl rfl hl.1 rfl (lv_room (Nat.le_of_ble_eq_true rfl)) dX15_send_85 ⟨(Nat.le_of_ble_eq_true rfl), (Nat.le_of_ble_eq_true rfl)⟩) hS (fun q _ h => hFc q h) hFc (fun r u t H1 locs1 ht hvm hw hB hz1 hk1 hS => ?_)
          have hw9 : r = 0 := hw
          rw [hw9]
          obtain ⟨hP, hD, hK⟩ := pst_join (wc := [(x, .inr (21, [.ref s0, .int 0])), (s0, .inr (20, [.ref l0, .ref l1, .ref l2, .ref l3, .ref l4, .ref l5, .ref l6, .ref l7, .ref l8, .int 10, .int 100, .int 50, .int 0, .int 0])), (l3, .inr (5, [.int 0, .ref (E 0), .int 0]))]) (wr := [(l4, .inr (5, [.int 0, .ref (E 0), .int 0]))]) (w1 := [(x, .inr (21, [.ref s0, .int 0])), (s0, .inr (20, [.ref l0, .ref l1, .ref l2, .ref l3, .ref l4, .ref l5, .ref l6, .ref l7, .ref l8, .int 10, .int 100, .int 50, .int 0, .int 0])), (l3, .inr (5, [.int 0, .ref (E 0), .int 0]))]) (tr := []) (t1 := []) hP hD hK [3, 0, 1] [2] [] rfl rfl rfl (by decide) (by decide) hk1 hFc ht hvm hB
          generalize H1 = H at hP hS ⊢
          have hP : va_P (dC, dI) vwCl [(l4, .inr (5, [.int 0, .ref (E 0), .int 0])), (x, .inr (21, [.ref s0, .int 0])), (s0, .inr (20, [.ref l0, .ref l1, .ref l2, .ref l3, .ref l4, .ref l5, .ref l6, .ref l7, .ref l8, .int 10, .int 100, .int 50, .int 0, .int 0])), (l3, .inr (5, [.int 0, .ref (E 0), .int 0]))] H := hP
          have hD : va_D A [(l4, .inr (5, [.int 0, .ref (E 0), .int 0])), (x, .inr (21, [.ref s0, .int 0])), (s0, .inr (20, [.ref l0, .ref l1, .ref l2, .ref l3, .ref l4, .ref l5, .ref l6, .ref l7, .ref l8, .int 10, .int 100, .int 50, .int 0, .int 0])), (l3, .inr (5, [.int 0, .ref (E 0), .int 0]))] := hD
          have hK : va_K (dC, dI) vwCl [] s := hK
          refine W.widen (k := 0) (n := 0) (Nat.le_of_ble_eq_true rfl) (Nat.le_of_ble_eq_true rfl) ?_
          refine lv_iconst (v := 2) hx hb dX15_send_88 (by decide) ?_
          have hPc := hP.sub (ws' := [(x, .inr (21, [.ref s0, .int 0]))]) [1] rfl
          have hDc := hD.sub (ws' := [(x, .inr (21, [.ref s0, .int 0]))]) [1] (by decide) rfl
          have hKc := hK.sub (tys' := []) [] rfl
          have hFc := va_free (wc := [(x, .inr (21, [.ref s0, .int 0]))]) hD hS hA [1] rfl
          refine va_calli (va_runV (As := [.int 0, .int 2]) (rest := []) ⟨hx, hb, hml, hown, hts⟩ (c_rm_no_0 l dC dI E x s0 0 2 H.size) (cwV 2 hts gX15_send_X15_no rfl rfl rfl (by decide +kernel) ⟨(Nat.le_of_ble_eq_true rfl), (Nat.le_of_ble_eq_true rfl)⟩) ⟨pre_blind, va_recv hKc hPc (ci := 21) (q0 := 0) rfl rfl, pre_call hPc hDc hKc hFc hE hZ hS⟩ rfl rfl hl.1 rfl (lv_room (Nat.le_of_ble_eq_true rfl)) dX15_send_89 ⟨(Nat.le_of_ble_eq_true rfl), (Nat.le_of_ble_eq_true rfl)⟩) hS (fun q _ h => hFc q h) hFc (fun r u t H1 locs1 ht hvm hw hB hz1 hk1 hS => ?_)
          have hw9 : r = 1 := hw
          rw [hw9]
          obtain ⟨hP, hD, hK⟩ := pst_join (wc := [(x, .inr (21, [.ref s0, .int 0]))]) (wr := [(l4, .inr (5, [.int 0, .ref (E 0), .int 0])), (s0, .inr (20, [.ref l0, .ref l1, .ref l2, .ref l3, .ref l4, .ref l5, .ref l6, .ref l7, .ref l8, .int 10, .int 100, .int 50, .int 0, .int 0])), (l3, .inr (5, [.int 0, .ref (E 0), .int 0]))]) (w1 := [(x, .inr (21, [.ref s0, .int 2]))]) (tr := []) (t1 := []) hP hD hK [1] [0, 2, 3] [] rfl rfl rfl (by decide) (by decide) hk1 hFc ht hvm hB
          generalize H1 = H at hP hS ⊢
          have hP : va_P (dC, dI) vwCl [(l4, .inr (5, [.int 0, .ref (E 0), .int 0])), (s0, .inr (20, [.ref l0, .ref l1, .ref l2, .ref l3, .ref l4, .ref l5, .ref l6, .ref l7, .ref l8, .int 10, .int 100, .int 50, .int 0, .int 0])), (l3, .inr (5, [.int 0, .ref (E 0), .int 0])), (x, .inr (21, [.ref s0, .int 2]))] H := hP
          have hD : va_D A [(l4, .inr (5, [.int 0, .ref (E 0), .int 0])), (s0, .inr (20, [.ref l0, .ref l1, .ref l2, .ref l3, .ref l4, .ref l5, .ref l6, .ref l7, .ref l8, .int 10, .int 100, .int 50, .int 0, .int 0])), (l3, .inr (5, [.int 0, .ref (E 0), .int 0])), (x, .inr (21, [.ref s0, .int 2]))] := hD
          have hK : va_K (dC, dI) vwCl [] s := hK
          refine W.widen (k := 0) (n := 0) (Nat.le_of_ble_eq_true rfl) (Nat.le_of_ble_eq_true rfl) ?_
          refine lv_if_eq (tgt := 97) hx hb dX15_send_92 (by decide) (fun c9 => absurd c9 (by decide)) (fun _ => ?_)
          refine lv_iconst (v := 0) hx hb dX15_send_95 (by decide) ?_
          have hP9 := hP.sub (ws' := [(x, .inr (21, [.ref s0, .int 2]))]) [3] rfl
          have hD9 := hD.sub (ws' := [(x, .inr (21, [.ref s0, .int 2]))]) [3] (by decide) rfl
          have hK9 := hK.sub (tys' := []) [] rfl
          refine W.widen (k := 0) (n := 0) (Nat.le_of_ble_eq_true rfl) (Nat.le_of_ble_eq_true rfl) ?_
          exact W.iret (v := 0) hx hb hr (fun t ht hW => ⟨⟨0, (), rfl, rfl, pst_of hP9 hD9 hK9 ht hW⟩, hS.F ht⟩) hS.2.2 dX15_send_96
        · refine lv_aload_n hx hb dX15_send_75 rfl (lv_at hl 1 rfl) ?_
          refine lv_iload_n hx hb dX15_send_76 rfl (lv_at hl 3 rfl) ?_
          have hPc := hP.sub (ws' := [(x, .inr (21, [.ref s0, .int 0])), (s0, .inr (20, [.ref l0, .ref l1, .ref l2, .ref l3, .ref l4, .ref l5, .ref l6, .ref l7, .ref l8, .int 10, .int 100, .int 50, .int 0, .int 0])), (l4, .inr (5, [.int 0, .ref (E 0), .int 0]))]) [3, 0, 2] rfl
          have hDc := hD.sub (ws' := [(x, .inr (21, [.ref s0, .int 0])), (s0, .inr (20, [.ref l0, .ref l1, .ref l2, .ref l3, .ref l4, .ref l5, .ref l6, .ref l7, .ref l8, .int 10, .int 100, .int 50, .int 0, .int 0])), (l4, .inr (5, [.int 0, .ref (E 0), .int 0]))]) [3, 0, 2] (by decide) rfl
          have hKc := hK.sub (tys' := []) [] rfl
          have hFc := va_free (wc := [(x, .inr (21, [.ref s0, .int 0])), (s0, .inr (20, [.ref l0, .ref l1, .ref l2, .ref l3, .ref l4, .ref l5, .ref l6, .ref l7, .ref l8, .int 10, .int 100, .int 50, .int 0, .int 0])), (l4, .inr (5, [.int 0, .ref (E 0), .int 0]))]) hD hS hA [3, 0, 2] rfl
          refine va_calli (va_runV (As := [.int a]) (rest := [.ref x]) ⟨hx, hb, hml, hown, hts⟩ (c_rm_isDevice l dC dI E x s0 l0 l1 l2 l3 l4 l5 l6 l7 l8 0 a H.size) (cwV 1 hts gX15_send_X15_isDevice rfl rfl rfl (by decide +kernel) ⟨(Nat.le_of_ble_eq_true rfl), (Nat.le_of_ble_eq_true rfl)⟩) ⟨pre_blind, va_recv hKc hPc (ci := 21) (q0 := 0) rfl rfl, pre_call hPc hDc hKc hFc hE hZ hS⟩ rfl rfl hl.1 rfl (lv_room (Nat.le_of_ble_eq_true rfl)) dX15_send_77 ⟨(Nat.le_of_ble_eq_true rfl), (Nat.le_of_ble_eq_true rfl)⟩) hS (fun q _ h => hFc q h) hFc (fun r u t H1 locs1 ht hvm hw hB hz1 hk1 hS => ?_)
          have hw9 : r = 0 := hw
          rw [hw9]
          obtain ⟨hP, hD, hK⟩ := pst_join (wc := [(x, .inr (21, [.ref s0, .int 0])), (s0, .inr (20, [.ref l0, .ref l1, .ref l2, .ref l3, .ref l4, .ref l5, .ref l6, .ref l7, .ref l8, .int 10, .int 100, .int 50, .int 0, .int 0])), (l4, .inr (5, [.int 0, .ref (E 0), .int 0]))]) (wr := [(l3, .inr (5, [.int 0, .ref (E 0), .int 0]))]) (w1 := [(x, .inr (21, [.ref s0, .int 0])), (s0, .inr (20, [.ref l0, .ref l1, .ref l2, .ref l3, .ref l4, .ref l5, .ref l6, .ref l7, .ref l8, .int 10, .int 100, .int 50, .int 0, .int 0])), (l4, .inr (5, [.int 0, .ref (E 0), .int 0]))]) (tr := []) (t1 := []) hP hD hK [3, 0, 2] [1] [] rfl rfl rfl (by decide) (by decide) hk1 hFc ht hvm hB
          generalize H1 = H at hP hS ⊢
          have hP : va_P (dC, dI) vwCl [(l3, .inr (5, [.int 0, .ref (E 0), .int 0])), (x, .inr (21, [.ref s0, .int 0])), (s0, .inr (20, [.ref l0, .ref l1, .ref l2, .ref l3, .ref l4, .ref l5, .ref l6, .ref l7, .ref l8, .int 10, .int 100, .int 50, .int 0, .int 0])), (l4, .inr (5, [.int 0, .ref (E 0), .int 0]))] H := hP
          have hD : va_D A [(l3, .inr (5, [.int 0, .ref (E 0), .int 0])), (x, .inr (21, [.ref s0, .int 0])), (s0, .inr (20, [.ref l0, .ref l1, .ref l2, .ref l3, .ref l4, .ref l5, .ref l6, .ref l7, .ref l8, .int 10, .int 100, .int 50, .int 0, .int 0])), (l4, .inr (5, [.int 0, .ref (E 0), .int 0]))] := hD
          have hK : va_K (dC, dI) vwCl [] s := hK
          refine W.widen (k := 0) (n := 0) (Nat.le_of_ble_eq_true rfl) (Nat.le_of_ble_eq_true rfl) ?_
          refine lv_goto (tgt := 88) hx hb dX15_send_80 (by decide) ?_
          refine lv_iconst (v := 2) hx hb dX15_send_88 (by decide) ?_
          have hPc := hP.sub (ws' := [(x, .inr (21, [.ref s0, .int 0]))]) [1] rfl
          have hDc := hD.sub (ws' := [(x, .inr (21, [.ref s0, .int 0]))]) [1] (by decide) rfl
          have hKc := hK.sub (tys' := []) [] rfl
          have hFc := va_free (wc := [(x, .inr (21, [.ref s0, .int 0]))]) hD hS hA [1] rfl
          refine va_calli (va_runV (As := [.int 0, .int 2]) (rest := []) ⟨hx, hb, hml, hown, hts⟩ (c_rm_no_0 l dC dI E x s0 0 2 H.size) (cwV 2 hts gX15_send_X15_no rfl rfl rfl (by decide +kernel) ⟨(Nat.le_of_ble_eq_true rfl), (Nat.le_of_ble_eq_true rfl)⟩) ⟨pre_blind, va_recv hKc hPc (ci := 21) (q0 := 0) rfl rfl, pre_call hPc hDc hKc hFc hE hZ hS⟩ rfl rfl hl.1 rfl (lv_room (Nat.le_of_ble_eq_true rfl)) dX15_send_89 ⟨(Nat.le_of_ble_eq_true rfl), (Nat.le_of_ble_eq_true rfl)⟩) hS (fun q _ h => hFc q h) hFc (fun r u t H1 locs1 ht hvm hw hB hz1 hk1 hS => ?_)
          have hw9 : r = 1 := hw
          rw [hw9]
          obtain ⟨hP, hD, hK⟩ := pst_join (wc := [(x, .inr (21, [.ref s0, .int 0]))]) (wr := [(l3, .inr (5, [.int 0, .ref (E 0), .int 0])), (s0, .inr (20, [.ref l0, .ref l1, .ref l2, .ref l3, .ref l4, .ref l5, .ref l6, .ref l7, .ref l8, .int 10, .int 100, .int 50, .int 0, .int 0])), (l4, .inr (5, [.int 0, .ref (E 0), .int 0]))]) (w1 := [(x, .inr (21, [.ref s0, .int 2]))]) (tr := []) (t1 := []) hP hD hK [1] [0, 2, 3] [] rfl rfl rfl (by decide) (by decide) hk1 hFc ht hvm hB
          generalize H1 = H at hP hS ⊢
          have hP : va_P (dC, dI) vwCl [(l3, .inr (5, [.int 0, .ref (E 0), .int 0])), (s0, .inr (20, [.ref l0, .ref l1, .ref l2, .ref l3, .ref l4, .ref l5, .ref l6, .ref l7, .ref l8, .int 10, .int 100, .int 50, .int 0, .int 0])), (l4, .inr (5, [.int 0, .ref (E 0), .int 0])), (x, .inr (21, [.ref s0, .int 2]))] H := hP
          have hD : va_D A [(l3, .inr (5, [.int 0, .ref (E 0), .int 0])), (s0, .inr (20, [.ref l0, .ref l1, .ref l2, .ref l3, .ref l4, .ref l5, .ref l6, .ref l7, .ref l8, .int 10, .int 100, .int 50, .int 0, .int 0])), (l4, .inr (5, [.int 0, .ref (E 0), .int 0])), (x, .inr (21, [.ref s0, .int 2]))] := hD
          have hK : va_K (dC, dI) vwCl [] s := hK
          refine W.widen (k := 0) (n := 0) (Nat.le_of_ble_eq_true rfl) (Nat.le_of_ble_eq_true rfl) ?_
          refine lv_if_eq (tgt := 97) hx hb dX15_send_92 (by decide) (fun c9 => absurd c9 (by decide)) (fun _ => ?_)
          refine lv_iconst (v := 0) hx hb dX15_send_95 (by decide) ?_
          have hP9 := hP.sub (ws' := [(x, .inr (21, [.ref s0, .int 2]))]) [3] rfl
          have hD9 := hD.sub (ws' := [(x, .inr (21, [.ref s0, .int 2]))]) [3] (by decide) rfl
          have hK9 := hK.sub (tys' := []) [] rfl
          refine W.widen (k := 0) (n := 0) (Nat.le_of_ble_eq_true rfl) (Nat.le_of_ble_eq_true rfl) ?_
          exact W.iret (v := 0) hx hb hr (fun t ht hW => ⟨⟨0, (), rfl, rfl, pst_of hP9 hD9 hK9 ht hW⟩, hS.F ht⟩) hS.2.2 dX15_send_96
    · refine lv_iload_n hx hb dX15_send_12 rfl (lv_at hl 1 rfl) ?_
      refine lv_bipush (v := 111) hx hb dX15_send_13 (by decide) ?_
      refine lv_icmp_eq (tgt := 24) hx hb dX15_send_15 (by decide) (fun c_37 => ?_) (fun c_37 => ?_)
      · refine lv_iload_n hx hb dX15_send_24 rfl (lv_at hl 3 rfl) ?_
        refine lv_iconst (v := 1) hx hb dX15_send_25 (by decide) ?_
        refine lv_bipush (v := 99) hx hb dX15_send_26 (by decide) ?_
        have hPc := hP.sub (ws' := []) [] rfl
        have hDc := hD.sub (ws' := []) [] (by decide) rfl
        have hKc := hK.sub (tys' := []) [] rfl
        have hFc := va_free (wc := []) hD hS hA [] rfl
        refine va_calli (va_runS (As := [.int b, .int 1, .int 99]) (rest := []) ⟨hx, hb, hml, hown, hts⟩ (c_rm_isIn_y l dC dI E b 1 99 s.heap.size hla1 hua1) (va_cwS 3 hts gX15_send_X15_isIn rfl rfl rfl (by decide +kernel) ⟨(Nat.le_of_ble_eq_true rfl), (Nat.le_of_ble_eq_true rfl)⟩) ⟨pre_blind, pre_call hPc hDc hKc hFc hE hZ hS⟩ rfl rfl hl.1 rfl (lv_room (Nat.le_of_ble_eq_true rfl)) dX15_send_28 ⟨(Nat.le_of_ble_eq_true rfl), (Nat.le_of_ble_eq_true rfl)⟩) hS (fun q _ h => hFc q h) hFc (fun r u t H1 locs1 ht hvm hw hB hz1 hk1 hS => ?_)
        have hw9 : r = 1 := hw
        rw [hw9]
        obtain ⟨hP, hD, hK⟩ := pst_join (wc := []) (wr := [(x, .inr (21, [.ref s0, .int th])), (s0, .inr (20, [.ref l0, .ref l1, .ref l2, .ref l3, .ref l4, .ref l5, .ref l6, .ref l7, .ref l8, .int 10, .int 100, .int 50, .int 0, .int 0])), (l3, .inr (5, [.int 0, .ref (E 0), .int 0])), (l4, .inr (5, [.int 0, .ref (E 0), .int 0]))]) (w1 := []) (tr := []) (t1 := []) hP hD hK [] [0, 1, 2, 3] [] rfl rfl rfl (by decide) (by decide) hk1 hFc ht hvm hB
        generalize H1 = H at hP hS ⊢
        have hP : va_P (dC, dI) vwCl [(x, .inr (21, [.ref s0, .int th])), (s0, .inr (20, [.ref l0, .ref l1, .ref l2, .ref l3, .ref l4, .ref l5, .ref l6, .ref l7, .ref l8, .int 10, .int 100, .int 50, .int 0, .int 0])), (l3, .inr (5, [.int 0, .ref (E 0), .int 0])), (l4, .inr (5, [.int 0, .ref (E 0), .int 0]))] H := hP
        have hD : va_D A [(x, .inr (21, [.ref s0, .int th])), (s0, .inr (20, [.ref l0, .ref l1, .ref l2, .ref l3, .ref l4, .ref l5, .ref l6, .ref l7, .ref l8, .int 10, .int 100, .int 50, .int 0, .int 0])), (l3, .inr (5, [.int 0, .ref (E 0), .int 0])), (l4, .inr (5, [.int 0, .ref (E 0), .int 0]))] := hD
        have hK : va_K (dC, dI) vwCl [] s := hK
        refine W.widen (k := 0) (n := 0) (Nat.le_of_ble_eq_true rfl) (Nat.le_of_ble_eq_true rfl) ?_
        refine lv_if_eq (tgt := 49) hx hb dX15_send_31 (by decide) (fun c9 => absurd c9 (by decide)) (fun _ => ?_)
        refine lv_iload hx hb dX15_send_34 (lv_at hl 4 rfl) ?_
        refine lv_iconst (v := 0) hx hb dX15_send_36 (by decide) ?_
        refine lv_bipush (v := 99) hx hb dX15_send_37 (by decide) ?_
        have hPc := hP.sub (ws' := []) [] rfl
        have hDc := hD.sub (ws' := []) [] (by decide) rfl
        have hKc := hK.sub (tys' := []) [] rfl
        have hFc := va_free (wc := []) hD hS hA [] rfl
        refine va_calli (va_runS (As := [.int c4, .int 0, .int 99]) (rest := []) ⟨hx, hb, hml, hown, hts⟩ (c_rm_isIn_y l dC dI E c4 0 99 H.size hla2 hua2) (va_cwS 3 hts gX15_send_X15_isIn rfl rfl rfl (by decide +kernel) ⟨(Nat.le_of_ble_eq_true rfl), (Nat.le_of_ble_eq_true rfl)⟩) ⟨pre_blind, pre_call hPc hDc hKc hFc hE hZ hS⟩ rfl rfl hl.1 rfl (lv_room (Nat.le_of_ble_eq_true rfl)) dX15_send_39 ⟨(Nat.le_of_ble_eq_true rfl), (Nat.le_of_ble_eq_true rfl)⟩) hS (fun q _ h => hFc q h) hFc (fun r u t H1 locs1 ht hvm hw hB hz1 hk1 hS => ?_)
        have hw9 : r = 1 := hw
        rw [hw9]
        obtain ⟨hP, hD, hK⟩ := pst_join (wc := []) (wr := [(x, .inr (21, [.ref s0, .int th])), (s0, .inr (20, [.ref l0, .ref l1, .ref l2, .ref l3, .ref l4, .ref l5, .ref l6, .ref l7, .ref l8, .int 10, .int 100, .int 50, .int 0, .int 0])), (l3, .inr (5, [.int 0, .ref (E 0), .int 0])), (l4, .inr (5, [.int 0, .ref (E 0), .int 0]))]) (w1 := []) (tr := []) (t1 := []) hP hD hK [] [0, 1, 2, 3] [] rfl rfl rfl (by decide) (by decide) hk1 hFc ht hvm hB
        generalize H1 = H at hP hS ⊢
        have hP : va_P (dC, dI) vwCl [(x, .inr (21, [.ref s0, .int th])), (s0, .inr (20, [.ref l0, .ref l1, .ref l2, .ref l3, .ref l4, .ref l5, .ref l6, .ref l7, .ref l8, .int 10, .int 100, .int 50, .int 0, .int 0])), (l3, .inr (5, [.int 0, .ref (E 0), .int 0])), (l4, .inr (5, [.int 0, .ref (E 0), .int 0]))] H := hP
        have hD : va_D A [(x, .inr (21, [.ref s0, .int th])), (s0, .inr (20, [.ref l0, .ref l1, .ref l2, .ref l3, .ref l4, .ref l5, .ref l6, .ref l7, .ref l8, .int 10, .int 100, .int 50, .int 0, .int 0])), (l3, .inr (5, [.int 0, .ref (E 0), .int 0])), (l4, .inr (5, [.int 0, .ref (E 0), .int 0]))] := hD
        have hK : va_K (dC, dI) vwCl [] s := hK
        refine W.widen (k := 0) (n := 0) (Nat.le_of_ble_eq_true rfl) (Nat.le_of_ble_eq_true rfl) ?_
        refine lv_if_eq (tgt := 49) hx hb dX15_send_42 (by decide) (fun c9 => absurd c9 (by decide)) (fun _ => ?_)
        refine lv_iconst (v := 1) hx hb dX15_send_45 (by decide) ?_
        refine lv_goto (tgt := 50) hx hb dX15_send_46 (by decide) ?_
        refine lv_istore (lv' := [(5, .int 1), (0, .ref x), (1, .int k), (2, .int a), (3, .int b), (4, .int c4)]) hx hb dX15_send_50 hl (by decide) rfl (fun ls hl => ?_)
        refine lv_aload_n hx hb dX15_send_52 rfl (lv_at hl 1 rfl) ?_
        refine lv_iload hx hb dX15_send_53 (lv_at hl 0 rfl) ?_
        refine lv_iconst (v := 1) hx hb dX15_send_55 (by decide) ?_
        have hPc := hP.sub (ws' := [(x, .inr (21, [.ref s0, .int th]))]) [0] rfl
        have hDc := hD.sub (ws' := [(x, .inr (21, [.ref s0, .int th]))]) [0] (by decide) rfl
        have hKc := hK.sub (tys' := []) [] rfl
        have hFc := va_free (wc := [(x, .inr (21, [.ref s0, .int th]))]) hD hS hA [0] rfl
        refine va_calli (va_runV (As := [.int 1, .int 1]) (rest := []) ⟨hx, hb, hml, hown, hts⟩ (c_rm_no_1 l dC dI E x s0 th 1 H.size) (cwV 2 hts gX15_send_X15_no rfl rfl rfl (by decide +kernel) ⟨(Nat.le_of_ble_eq_true rfl), (Nat.le_of_ble_eq_true rfl)⟩) ⟨pre_blind, va_recv hKc hPc (ci := 21) (q0 := 0) rfl rfl, pre_call hPc hDc hKc hFc hE hZ hS⟩ rfl rfl hl.1 rfl (lv_room (Nat.le_of_ble_eq_true rfl)) dX15_send_56 ⟨(Nat.le_of_ble_eq_true rfl), (Nat.le_of_ble_eq_true rfl)⟩) hS (fun q _ h => hFc q h) hFc (fun r u t H1 locs1 ht hvm hw hB hz1 hk1 hS => ?_)
        have hw9 : r = 0 := hw
        rw [hw9]
        obtain ⟨hP, hD, hK⟩ := pst_join (wc := [(x, .inr (21, [.ref s0, .int th]))]) (wr := [(s0, .inr (20, [.ref l0, .ref l1, .ref l2, .ref l3, .ref l4, .ref l5, .ref l6, .ref l7, .ref l8, .int 10, .int 100, .int 50, .int 0, .int 0])), (l3, .inr (5, [.int 0, .ref (E 0), .int 0])), (l4, .inr (5, [.int 0, .ref (E 0), .int 0]))]) (w1 := [(x, .inr (21, [.ref s0, .int 0]))]) (tr := []) (t1 := []) hP hD hK [0] [1, 2, 3] [] rfl rfl rfl (by decide) (by decide) hk1 hFc ht hvm hB
        generalize H1 = H at hP hS ⊢
        have hP : va_P (dC, dI) vwCl [(s0, .inr (20, [.ref l0, .ref l1, .ref l2, .ref l3, .ref l4, .ref l5, .ref l6, .ref l7, .ref l8, .int 10, .int 100, .int 50, .int 0, .int 0])), (l3, .inr (5, [.int 0, .ref (E 0), .int 0])), (l4, .inr (5, [.int 0, .ref (E 0), .int 0])), (x, .inr (21, [.ref s0, .int 0]))] H := hP
        have hD : va_D A [(s0, .inr (20, [.ref l0, .ref l1, .ref l2, .ref l3, .ref l4, .ref l5, .ref l6, .ref l7, .ref l8, .int 10, .int 100, .int 50, .int 0, .int 0])), (l3, .inr (5, [.int 0, .ref (E 0), .int 0])), (l4, .inr (5, [.int 0, .ref (E 0), .int 0])), (x, .inr (21, [.ref s0, .int 0]))] := hD
        have hK : va_K (dC, dI) vwCl [] s := hK
        refine W.widen (k := 0) (n := 0) (Nat.le_of_ble_eq_true rfl) (Nat.le_of_ble_eq_true rfl) ?_
        refine lv_if_ne (tgt := 95) hx hb dX15_send_59 (by decide) (fun c9 => absurd (by decide) c9) (fun _ => ?_)
        refine lv_aload_n hx hb dX15_send_62 rfl (lv_at hl 1 rfl) ?_
        refine lv_iload_n hx hb dX15_send_63 rfl (lv_at hl 2 rfl) ?_
        refine lv_bipush (v := 110) hx hb dX15_send_64 (by decide) ?_
        refine lv_icmp_eq (tgt := 75) hx hb dX15_send_66 (by decide) (fun c_44 => ?_) (fun c_44 => ?_)
        · refine lv_aload_n hx hb dX15_send_75 rfl (lv_at hl 1 rfl) ?_
          refine lv_iload_n hx hb dX15_send_76 rfl (lv_at hl 3 rfl) ?_
          have hPc := hP.sub (ws' := [(x, .inr (21, [.ref s0, .int 0])), (s0, .inr (20, [.ref l0, .ref l1, .ref l2, .ref l3, .ref l4, .ref l5, .ref l6, .ref l7, .ref l8, .int 10, .int 100, .int 50, .int 0, .int 0])), (l4, .inr (5, [.int 0, .ref (E 0), .int 0]))]) [3, 0, 2] rfl
          have hDc := hD.sub (ws' := [(x, .inr (21, [.ref s0, .int 0])), (s0, .inr (20, [.ref l0, .ref l1, .ref l2, .ref l3, .ref l4, .ref l5, .ref l6, .ref l7, .ref l8, .int 10, .int 100, .int 50, .int 0, .int 0])), (l4, .inr (5, [.int 0, .ref (E 0), .int 0]))]) [3, 0, 2] (by decide) rfl
          have hKc := hK.sub (tys' := []) [] rfl
          have hFc := va_free (wc := [(x, .inr (21, [.ref s0, .int 0])), (s0, .inr (20, [.ref l0, .ref l1, .ref l2, .ref l3, .ref l4, .ref l5, .ref l6, .ref l7, .ref l8, .int 10, .int 100, .int 50, .int 0, .int 0])), (l4, .inr (5, [.int 0, .ref (E 0), .int 0]))]) hD hS hA [3, 0, 2] rfl
          refine va_calli (va_runV (As := [.int a]) (rest := [.ref x]) ⟨hx, hb, hml, hown, hts⟩ (c_rm_isDevice l dC dI E x s0 l0 l1 l2 l3 l4 l5 l6 l7 l8 0 a H.size) (cwV 1 hts gX15_send_X15_isDevice rfl rfl rfl (by decide +kernel) ⟨(Nat.le_of_ble_eq_true rfl), (Nat.le_of_ble_eq_true rfl)⟩) ⟨pre_blind, va_recv hKc hPc (ci := 21) (q0 := 0) rfl rfl, pre_call hPc hDc hKc hFc hE hZ hS⟩ rfl rfl hl.1 rfl (lv_room (Nat.le_of_ble_eq_true rfl)) dX15_send_77 ⟨(Nat.le_of_ble_eq_true rfl), (Nat.le_of_ble_eq_true rfl)⟩) hS (fun q _ h => hFc q h) hFc (fun r u t H1 locs1 ht hvm hw hB hz1 hk1 hS => ?_)
          have hw9 : r = 0 := hw
          rw [hw9]
          obtain ⟨hP, hD, hK⟩ := pst_join (wc := [(x, .inr (21, [.ref s0, .int 0])), (s0, .inr (20, [.ref l0, .ref l1, .ref l2, .ref l3, .ref l4, .ref l5, .ref l6, .ref l7, .ref l8, .int 10, .int 100, .int 50, .int 0, .int 0])), (l4, .inr (5, [.int 0, .ref (E 0), .int 0]))]) (wr := [(l3, .inr (5, [.int 0, .ref (E 0), .int 0]))]) (w1 := [(x, .inr (21, [.ref s0, .int 0])), (s0, .inr (20, [.ref l0, .ref l1, .ref l2, .ref l3, .ref l4, .ref l5, .ref l6, .ref l7, .ref l8, .int 10, .int 100, .int 50, .int 0, .int 0])), (l4, .inr (5, [.int 0, .ref (E 0), .int 0]))]) (tr := []) (t1 := []) hP hD hK [3, 0, 2] [1] [] rfl rfl rfl (by decide) (by decide) hk1 hFc ht hvm hB
          generalize H1 = H at hP hS ⊢
          have hP : va_P (dC, dI) vwCl [(l3, .inr (5, [.int 0, .ref (E 0), .int 0])), (x, .inr (21, [.ref s0, .int 0])), (s0, .inr (20, [.ref l0, .ref l1, .ref l2, .ref l3, .ref l4, .ref l5, .ref l6, .ref l7, .ref l8, .int 10, .int 100, .int 50, .int 0, .int 0])), (l4, .inr (5, [.int 0, .ref (E 0), .int 0]))] H := hP
          have hD : va_D A [(l3, .inr (5, [.int 0, .ref (E 0), .int 0])), (x, .inr (21, [.ref s0, .int 0])), (s0, .inr (20, [.ref l0, .ref l1, .ref l2, .ref l3, .ref l4, .ref l5, .ref l6, .ref l7, .ref l8, .int 10, .int 100, .int 50, .int 0, .int 0])), (l4, .inr (5, [.int 0, .ref (E 0), .int 0]))] := hD
          have hK : va_K (dC, dI) vwCl [] s := hK
          refine W.widen (k := 0) (n := 0) (Nat.le_of_ble_eq_true rfl) (Nat.le_of_ble_eq_true rfl) ?_
          refine lv_goto (tgt := 88) hx hb dX15_send_80 (by decide) ?_
          refine lv_iconst (v := 2) hx hb dX15_send_88 (by decide) ?_
          have hPc := hP.sub (ws' := [(x, .inr (21, [.ref s0, .int 0]))]) [1] rfl
          have hDc := hD.sub (ws' := [(x, .inr (21, [.ref s0, .int 0]))]) [1] (by decide) rfl
          have hKc := hK.sub (tys' := []) [] rfl
          have hFc := va_free (wc := [(x, .inr (21, [.ref s0, .int 0]))]) hD hS hA [1] rfl
          refine va_calli (va_runV (As := [.int 0, .int 2]) (rest := []) ⟨hx, hb, hml, hown, hts⟩ (c_rm_no_0 l dC dI E x s0 0 2 H.size) (cwV 2 hts gX15_send_X15_no rfl rfl rfl (by decide +kernel) ⟨(Nat.le_of_ble_eq_true rfl), (Nat.le_of_ble_eq_true rfl)⟩) ⟨pre_blind, va_recv hKc hPc (ci := 21) (q0 := 0) rfl rfl, pre_call hPc hDc hKc hFc hE hZ hS⟩ rfl rfl hl.1 rfl (lv_room (Nat.le_of_ble_eq_true rfl)) dX15_send_89 ⟨(Nat.le_of_ble_eq_true rfl), (Nat.le_of_ble_eq_true rfl)⟩) hS (fun q _ h => hFc q h) hFc (fun r u t H1 locs1 ht hvm hw hB hz1 hk1 hS => ?_)
          have hw9 : r = 1 := hw
          rw [hw9]
          obtain ⟨hP, hD, hK⟩ := pst_join (wc := [(x, .inr (21, [.ref s0, .int 0]))]) (wr := [(l3, .inr (5, [.int 0, .ref (E 0), .int 0])), (s0, .inr (20, [.ref l0, .ref l1, .ref l2, .ref l3, .ref l4, .ref l5, .ref l6, .ref l7, .ref l8, .int 10, .int 100, .int 50, .int 0, .int 0])), (l4, .inr (5, [.int 0, .ref (E 0), .int 0]))]) (w1 := [(x, .inr (21, [.ref s0, .int 2]))]) (tr := []) (t1 := []) hP hD hK [1] [0, 2, 3] [] rfl rfl rfl (by decide) (by decide) hk1 hFc ht hvm hB
          generalize H1 = H at hP hS ⊢
          have hP : va_P (dC, dI) vwCl [(l3, .inr (5, [.int 0, .ref (E 0), .int 0])), (s0, .inr (20, [.ref l0, .ref l1, .ref l2, .ref l3, .ref l4, .ref l5, .ref l6, .ref l7, .ref l8, .int 10, .int 100, .int 50, .int 0, .int 0])), (l4, .inr (5, [.int 0, .ref (E 0), .int 0])), (x, .inr (21, [.ref s0, .int 2]))] H := hP
          have hD : va_D A [(l3, .inr (5, [.int 0, .ref (E 0), .int 0])), (s0, .inr (20, [.ref l0, .ref l1, .ref l2, .ref l3, .ref l4, .ref l5, .ref l6, .ref l7, .ref l8, .int 10, .int 100, .int 50, .int 0, .int 0])), (l4, .inr (5, [.int 0, .ref (E 0), .int 0])), (x, .inr (21, [.ref s0, .int 2]))] := hD
          have hK : va_K (dC, dI) vwCl [] s := hK
          refine W.widen (k := 0) (n := 0) (Nat.le_of_ble_eq_true rfl) (Nat.le_of_ble_eq_true rfl) ?_
          refine lv_if_eq (tgt := 97) hx hb dX15_send_92 (by decide) (fun c9 => absurd c9 (by decide)) (fun _ => ?_)
          refine lv_iconst (v := 0) hx hb dX15_send_95 (by decide) ?_
          have hP9 := hP.sub (ws' := [(x, .inr (21, [.ref s0, .int 2]))]) [3] rfl
          have hD9 := hD.sub (ws' := [(x, .inr (21, [.ref s0, .int 2]))]) [3] (by decide) rfl
          have hK9 := hK.sub (tys' := []) [] rfl
          refine W.widen (k := 0) (n := 0) (Nat.le_of_ble_eq_true rfl) (Nat.le_of_ble_eq_true rfl) ?_
          exact W.iret (v := 0) hx hb hr (fun t ht hW => ⟨⟨0, (), rfl, rfl, pst_of hP9 hD9 hK9 ht hW⟩, hS.F ht⟩) hS.2.2 dX15_send_96
        · refine lv_iload_n hx hb dX15_send_69 rfl (lv_at hl 2 rfl) ?_
          refine lv_bipush (v := 102) hx hb dX15_send_70 (by decide) ?_
          refine lv_icmp_ne (tgt := 83) hx hb dX15_send_72 (by decide) (fun c_48 => ?_) (fun c_48 => ?_)
          · refine lv_aload_n hx hb dX15_send_83 rfl (lv_at hl 1 rfl) ?_
            refine lv_iload_n hx hb dX15_send_84 rfl (lv_at hl 3 rfl) ?_
            have hPc := hP.sub (ws' := [(x, .inr (21, [.ref s0, .int 0])), (s0, .inr (20, [.ref l0, .ref l1, .ref l2, .ref l3, .ref l4, .ref l5, .ref l6, .ref l7, .ref l8, .int 10, .int 100, .int 50, .int 0, .int 0])), (l3, .inr (5, [.int 0, .ref (E 0), .int 0]))]) [3, 0, 1] rfl
            have hDc := hD.sub (ws' := [(x, .inr (21, [.ref s0, .int 0])), (s0, .inr (20, [.ref l0, .ref l1, .ref l2, .ref l3, .ref l4, .ref l5, .ref l6, .ref l7, .ref l8, .int 10, .int 100, .int 50, .int 0, .int 0])), (l3, .inr (5, [.int 0, .ref (E 0), .int 0]))]) [3, 0, 1] (by decide) rfl
            have hKc := hK.sub (tys' := []) [] rfl
            have hFc := va_free (wc := [(x, .inr (21, [.ref s0, .int 0])), (s0, .inr (20, [.ref l0, .ref l1, .ref l2, .ref l3, .ref l4, .ref l5, .ref l6, .ref l7, .ref l8, .int 10, .int 100, .int 50, .int 0, .int 0])), (l3, .inr (5, [.int 0, .ref (E 0), .int 0]))]) hD hS hA [3, 0, 1] rfl
            refine va_calli (va_runV (As := [.int a]) (rest := [.ref x]) ⟨hx, hb, hml, hown, hts⟩ (c_rm_isHatch l dC dI E x s0 l0 l1 l2 l3 l4 l5 l6 l7 l8 0 a H.size) (cwV 1 hts gX15_send_X15_isHatch rfl rfl rfl (by decide +kernel) ⟨(Nat.le_of_ble_eq_true rfl), (Nat.le_of_ble_eq_true rfl)⟩) ⟨pre_blind, va_recv hKc hPc (ci := 21) (q0 := 0) rfl rfl, pre_call hPc hDc hKc hFc hE hZ hS⟩ rfl rfl hl.1 rfl (lv_room (Nat.le_of_ble_eq_true rfl)) dX15_send_85 ⟨(Nat.le_of_ble_eq_true rfl), (Nat.le_of_ble_eq_true rfl)⟩) hS (fun q _ h => hFc q h) hFc (fun r u t H1 locs1 ht hvm hw hB hz1 hk1 hS => ?_)
            have hw9 : r = 0 := hw
            rw [hw9]
            obtain ⟨hP, hD, hK⟩ := pst_join (wc := [(x, .inr (21, [.ref s0, .int 0])), (s0, .inr (20, [.ref l0, .ref l1, .ref l2, .ref l3, .ref l4, .ref l5, .ref l6, .ref l7, .ref l8, .int 10, .int 100, .int 50, .int 0, .int 0])), (l3, .inr (5, [.int 0, .ref (E 0), .int 0]))]) (wr := [(l4, .inr (5, [.int 0, .ref (E 0), .int 0]))]) (w1 := [(x, .inr (21, [.ref s0, .int 0])), (s0, .inr (20, [.ref l0, .ref l1, .ref l2, .ref l3, .ref l4, .ref l5, .ref l6, .ref l7, .ref l8, .int 10, .int 100, .int 50, .int 0, .int 0])), (l3, .inr (5, [.int 0, .ref (E 0), .int 0]))]) (tr := []) (t1 := []) hP hD hK [3, 0, 1] [2] [] rfl rfl rfl (by decide) (by decide) hk1 hFc ht hvm hB
            generalize H1 = H at hP hS ⊢
            have hP : va_P (dC, dI) vwCl [(l4, .inr (5, [.int 0, .ref (E 0), .int 0])), (x, .inr (21, [.ref s0, .int 0])), (s0, .inr (20, [.ref l0, .ref l1, .ref l2, .ref l3, .ref l4, .ref l5, .ref l6, .ref l7, .ref l8, .int 10, .int 100, .int 50, .int 0, .int 0])), (l3, .inr (5, [.int 0, .ref (E 0), .int 0]))] H := hP
            have hD : va_D A [(l4, .inr (5, [.int 0, .ref (E 0), .int 0])), (x, .inr (21, [.ref s0, .int 0])), (s0, .inr (20, [.ref l0, .ref l1, .ref l2, .ref l3, .ref l4, .ref l5, .ref l6, .ref l7, .ref l8, .int 10, .int 100, .int 50, .int 0, .int 0])), (l3, .inr (5, [.int 0, .ref (E 0), .int 0]))] := hD
            have hK : va_K (dC, dI) vwCl [] s := hK
            refine W.widen (k := 0) (n := 0) (Nat.le_of_ble_eq_true rfl) (Nat.le_of_ble_eq_true rfl) ?_
            refine lv_iconst (v := 2) hx hb dX15_send_88 (by decide) ?_
            have hPc := hP.sub (ws' := [(x, .inr (21, [.ref s0, .int 0]))]) [1] rfl
            have hDc := hD.sub (ws' := [(x, .inr (21, [.ref s0, .int 0]))]) [1] (by decide) rfl
            have hKc := hK.sub (tys' := []) [] rfl
            have hFc := va_free (wc := [(x, .inr (21, [.ref s0, .int 0]))]) hD hS hA [1] rfl
            refine va_calli (va_runV (As := [.int 0, .int 2]) (rest := []) ⟨hx, hb, hml, hown, hts⟩ (c_rm_no_0 l dC dI E x s0 0 2 H.size) (cwV 2 hts gX15_send_X15_no rfl rfl rfl (by decide +kernel) ⟨(Nat.le_of_ble_eq_true rfl), (Nat.le_of_ble_eq_true rfl)⟩) ⟨pre_blind, va_recv hKc hPc (ci := 21) (q0 := 0) rfl rfl, pre_call hPc hDc hKc hFc hE hZ hS⟩ rfl rfl hl.1 rfl (lv_room (Nat.le_of_ble_eq_true rfl)) dX15_send_89 ⟨(Nat.le_of_ble_eq_true rfl), (Nat.le_of_ble_eq_true rfl)⟩) hS (fun q _ h => hFc q h) hFc (fun r u t H1 locs1 ht hvm hw hB hz1 hk1 hS => ?_)
            have hw9 : r = 1 := hw
            rw [hw9]
            obtain ⟨hP, hD, hK⟩ := pst_join (wc := [(x, .inr (21, [.ref s0, .int 0]))]) (wr := [(l4, .inr (5, [.int 0, .ref (E 0), .int 0])), (s0, .inr (20, [.ref l0, .ref l1, .ref l2, .ref l3, .ref l4, .ref l5, .ref l6, .ref l7, .ref l8, .int 10, .int 100, .int 50, .int 0, .int 0])), (l3, .inr (5, [.int 0, .ref (E 0), .int 0]))]) (w1 := [(x, .inr (21, [.ref s0, .int 2]))]) (tr := []) (t1 := []) hP hD hK [1] [0, 2, 3] [] rfl rfl rfl (by decide) (by decide) hk1 hFc ht hvm hB
            generalize H1 = H at hP hS ⊢
            have hP : va_P (dC, dI) vwCl [(l4, .inr (5, [.int 0, .ref (E 0), .int 0])), (s0, .inr (20, [.ref l0, .ref l1, .ref l2, .ref l3, .ref l4, .ref l5, .ref l6, .ref l7, .ref l8, .int 10, .int 100, .int 50, .int 0, .int 0])), (l3, .inr (5, [.int 0, .ref (E 0), .int 0])), (x, .inr (21, [.ref s0, .int 2]))] H := hP
            have hD : va_D A [(l4, .inr (5, [.int 0, .ref (E 0), .int 0])), (s0, .inr (20, [.ref l0, .ref l1, .ref l2, .ref l3, .ref l4, .ref l5, .ref l6, .ref l7, .ref l8, .int 10, .int 100, .int 50, .int 0, .int 0])), (l3, .inr (5, [.int 0, .ref (E 0), .int 0])), (x, .inr (21, [.ref s0, .int 2]))] := hD
            have hK : va_K (dC, dI) vwCl [] s := hK
            refine W.widen (k := 0) (n := 0) (Nat.le_of_ble_eq_true rfl) (Nat.le_of_ble_eq_true rfl) ?_
            refine lv_if_eq (tgt := 97) hx hb dX15_send_92 (by decide) (fun c9 => absurd c9 (by decide)) (fun _ => ?_)
            refine lv_iconst (v := 0) hx hb dX15_send_95 (by decide) ?_
            have hP9 := hP.sub (ws' := [(x, .inr (21, [.ref s0, .int 2]))]) [3] rfl
            have hD9 := hD.sub (ws' := [(x, .inr (21, [.ref s0, .int 2]))]) [3] (by decide) rfl
            have hK9 := hK.sub (tys' := []) [] rfl
            refine W.widen (k := 0) (n := 0) (Nat.le_of_ble_eq_true rfl) (Nat.le_of_ble_eq_true rfl) ?_
            exact W.iret (v := 0) hx hb hr (fun t ht hW => ⟨⟨0, (), rfl, rfl, pst_of hP9 hD9 hK9 ht hW⟩, hS.F ht⟩) hS.2.2 dX15_send_96
          · refine lv_aload_n hx hb dX15_send_75 rfl (lv_at hl 1 rfl) ?_
            refine lv_iload_n hx hb dX15_send_76 rfl (lv_at hl 3 rfl) ?_
            have hPc := hP.sub (ws' := [(x, .inr (21, [.ref s0, .int 0])), (s0, .inr (20, [.ref l0, .ref l1, .ref l2, .ref l3, .ref l4, .ref l5, .ref l6, .ref l7, .ref l8, .int 10, .int 100, .int 50, .int 0, .int 0])), (l4, .inr (5, [.int 0, .ref (E 0), .int 0]))]) [3, 0, 2] rfl
            have hDc := hD.sub (ws' := [(x, .inr (21, [.ref s0, .int 0])), (s0, .inr (20, [.ref l0, .ref l1, .ref l2, .ref l3, .ref l4, .ref l5, .ref l6, .ref l7, .ref l8, .int 10, .int 100, .int 50, .int 0, .int 0])), (l4, .inr (5, [.int 0, .ref (E 0), .int 0]))]) [3, 0, 2] (by decide) rfl
            have hKc := hK.sub (tys' := []) [] rfl
            have hFc := va_free (wc := [(x, .inr (21, [.ref s0, .int 0])), (s0, .inr (20, [.ref l0, .ref l1, .ref l2, .ref l3, .ref l4, .ref l5, .ref l6, .ref l7, .ref l8, .int 10, .int 100, .int 50, .int 0, .int 0])), (l4, .inr (5, [.int 0, .ref (E 0), .int 0]))]) hD hS hA [3, 0, 2] rfl
            refine va_calli (va_runV (As := [.int a]) (rest := [.ref x]) ⟨hx, hb, hml, hown, hts⟩ (c_rm_isDevice l dC dI E x s0 l0 l1 l2 l3 l4 l5 l6 l7 l8 0 a H.size) (cwV 1 hts gX15_send_X15_isDevice rfl rfl rfl (by decide +kernel) ⟨(Nat.le_of_ble_eq_true rfl), (Nat.le_of_ble_eq_true rfl)⟩) ⟨pre_blind, va_recv hKc hPc (ci := 21) (q0 := 0) rfl rfl, pre_call hPc hDc hKc hFc hE hZ hS⟩ rfl rfl hl.1 rfl (lv_room (Nat.le_of_ble_eq_true rfl)) dX15_send_77 ⟨(Nat.le_of_ble_eq_true rfl), (Nat.le_of_ble_eq_true rfl)⟩) hS (fun q _ h => hFc q h) hFc (fun r u t H1 locs1 ht hvm hw hB hz1 hk1 hS => ?_)
            have hw9 : r = 0 := hw
            rw [hw9]
            obtain ⟨hP, hD, hK⟩ := pst_join (wc := [(x, .inr (21, [.ref s0, .int 0])), (s0, .inr (20, [.ref l0, .ref l1, .ref l2, .ref l3, .ref l4, .ref l5, .ref l6, .ref l7, .ref l8, .int 10, .int 100, .int 50, .int 0, .int 0])), (l4, .inr (5, [.int 0, .ref (E 0), .int 0]))]) (wr := [(l3, .inr (5, [.int 0, .ref (E 0), .int 0]))]) (w1 := [(x, .inr (21, [.ref s0, .int 0])), (s0, .inr (20, [.ref l0, .ref l1, .ref l2, .ref l3, .ref l4, .ref l5, .ref l6, .ref l7, .ref l8, .int 10, .int 100, .int 50, .int 0, .int 0])), (l4, .inr (5, [.int 0, .ref (E 0), .int 0]))]) (tr := []) (t1 := []) hP hD hK [3, 0, 2] [1] [] rfl rfl rfl (by decide) (by decide) hk1 hFc ht hvm hB
            generalize H1 = H at hP hS ⊢
            have hP : va_P (dC, dI) vwCl [(l3, .inr (5, [.int 0, .ref (E 0), .int 0])), (x, .inr (21, [.ref s0, .int 0])), (s0, .inr (20, [.ref l0, .ref l1, .ref l2, .ref l3, .ref l4, .ref l5, .ref l6, .ref l7, .ref l8, .int 10, .int 100, .int 50, .int 0, .int 0])), (l4, .inr (5, [.int 0, .ref (E 0), .int 0]))] H := hP
            have hD : va_D A [(l3, .inr (5, [.int 0, .ref (E 0), .int 0])), (x, .inr (21, [.ref s0, .int 0])), (s0, .inr (20, [.ref l0, .ref l1, .ref l2, .ref l3, .ref l4, .ref l5, .ref l6, .ref l7, .ref l8, .int 10, .int 100, .int 50, .int 0, .int 0])), (l4, .inr (5, [.int 0, .ref (E 0), .int 0]))] := hD
            have hK : va_K (dC, dI) vwCl [] s := hK
            refine W.widen (k := 0) (n := 0) (Nat.le_of_ble_eq_true rfl) (Nat.le_of_ble_eq_true rfl) ?_
            refine lv_goto (tgt := 88) hx hb dX15_send_80 (by decide) ?_
            refine lv_iconst (v := 2) hx hb dX15_send_88 (by decide) ?_
            have hPc := hP.sub (ws' := [(x, .inr (21, [.ref s0, .int 0]))]) [1] rfl
            have hDc := hD.sub (ws' := [(x, .inr (21, [.ref s0, .int 0]))]) [1] (by decide) rfl
            have hKc := hK.sub (tys' := []) [] rfl
            have hFc := va_free (wc := [(x, .inr (21, [.ref s0, .int 0]))]) hD hS hA [1] rfl
            refine va_calli (va_runV (As := [.int 0, .int 2]) (rest := []) ⟨hx, hb, hml, hown, hts⟩ (c_rm_no_0 l dC dI E x s0 0 2 H.size) (cwV 2 hts gX15_send_X15_no rfl rfl rfl (by decide +kernel) ⟨(Nat.le_of_ble_eq_true rfl), (Nat.le_of_ble_eq_true rfl)⟩) ⟨pre_blind, va_recv hKc hPc (ci := 21) (q0 := 0) rfl rfl, pre_call hPc hDc hKc hFc hE hZ hS⟩ rfl rfl hl.1 rfl (lv_room (Nat.le_of_ble_eq_true rfl)) dX15_send_89 ⟨(Nat.le_of_ble_eq_true rfl), (Nat.le_of_ble_eq_true rfl)⟩) hS (fun q _ h => hFc q h) hFc (fun r u t H1 locs1 ht hvm hw hB hz1 hk1 hS => ?_)
            have hw9 : r = 1 := hw
            rw [hw9]
            obtain ⟨hP, hD, hK⟩ := pst_join (wc := [(x, .inr (21, [.ref s0, .int 0]))]) (wr := [(l3, .inr (5, [.int 0, .ref (E 0), .int 0])), (s0, .inr (20, [.ref l0, .ref l1, .ref l2, .ref l3, .ref l4, .ref l5, .ref l6, .ref l7, .ref l8, .int 10, .int 100, .int 50, .int 0, .int 0])), (l4, .inr (5, [.int 0, .ref (E 0), .int 0]))]) (w1 := [(x, .inr (21, [.ref s0, .int 2]))]) (tr := []) (t1 := []) hP hD hK [1] [0, 2, 3] [] rfl rfl rfl (by decide) (by decide) hk1 hFc ht hvm hB
            generalize H1 = H at hP hS ⊢
            have hP : va_P (dC, dI) vwCl [(l3, .inr (5, [.int 0, .ref (E 0), .int 0])), (s0, .inr (20, [.ref l0, .ref l1, .ref l2, .ref l3, .ref l4, .ref l5, .ref l6, .ref l7, .ref l8, .int 10, .int 100, .int 50, .int 0, .int 0])), (l4, .inr (5, [.int 0, .ref (E 0), .int 0])), (x, .inr (21, [.ref s0, .int 2]))] H := hP
            have hD : va_D A [(l3, .inr (5, [.int 0, .ref (E 0), .int 0])), (s0, .inr (20, [.ref l0, .ref l1, .ref l2, .ref l3, .ref l4, .ref l5, .ref l6, .ref l7, .ref l8, .int 10, .int 100, .int 50, .int 0, .int 0])), (l4, .inr (5, [.int 0, .ref (E 0), .int 0])), (x, .inr (21, [.ref s0, .int 2]))] := hD
            have hK : va_K (dC, dI) vwCl [] s := hK
            refine W.widen (k := 0) (n := 0) (Nat.le_of_ble_eq_true rfl) (Nat.le_of_ble_eq_true rfl) ?_
            refine lv_if_eq (tgt := 97) hx hb dX15_send_92 (by decide) (fun c9 => absurd c9 (by decide)) (fun _ => ?_)
            refine lv_iconst (v := 0) hx hb dX15_send_95 (by decide) ?_
            have hP9 := hP.sub (ws' := [(x, .inr (21, [.ref s0, .int 2]))]) [3] rfl
            have hD9 := hD.sub (ws' := [(x, .inr (21, [.ref s0, .int 2]))]) [3] (by decide) rfl
            have hK9 := hK.sub (tys' := []) [] rfl
            refine W.widen (k := 0) (n := 0) (Nat.le_of_ble_eq_true rfl) (Nat.le_of_ble_eq_true rfl) ?_
            exact W.iret (v := 0) hx hb hr (fun t ht hW => ⟨⟨0, (), rfl, rfl, pst_of hP9 hD9 hK9 ht hW⟩, hS.F ht⟩) hS.2.2 dX15_send_96
      · refine lv_iload_n hx hb dX15_send_18 rfl (lv_at hl 1 rfl) ?_
        refine lv_bipush (v := 104) hx hb dX15_send_19 (by decide) ?_
        refine lv_icmp_ne (tgt := 49) hx hb dX15_send_21 (by decide) (fun c9 => (hk.elim c_1 (fun h => h.elim c_19 (fun h => h.elim c_37 c9))).elim) (fun c_55 => ?_)
        refine lv_iload_n hx hb dX15_send_24 rfl (lv_at hl 3 rfl) ?_
        refine lv_iconst (v := 1) hx hb dX15_send_25 (by decide) ?_
        refine lv_bipush (v := 99) hx hb dX15_send_26 (by decide) ?_
        have hPc := hP.sub (ws' := []) [] rfl
        have hDc := hD.sub (ws' := []) [] (by decide) rfl
        have hKc := hK.sub (tys' := []) [] rfl
        have hFc := va_free (wc := []) hD hS hA [] rfl
        refine va_calli (va_runS (As := [.int b, .int 1, .int 99]) (rest := []) ⟨hx, hb, hml, hown, hts⟩ (c_rm_isIn_y l dC dI E b 1 99 s.heap.size hla1 hua1) (va_cwS 3 hts gX15_send_X15_isIn rfl rfl rfl (by decide +kernel) ⟨(Nat.le_of_ble_eq_true rfl), (Nat.le_of_ble_eq_true rfl)⟩) ⟨pre_blind, pre_call hPc hDc hKc hFc hE hZ hS⟩ rfl rfl hl.1 rfl (lv_room (Nat.le_of_ble_eq_true rfl)) dX15_send_28 ⟨(Nat.le_of_ble_eq_true rfl), (Nat.le_of_ble_eq_true rfl)⟩) hS (fun q _ h => hFc q h) hFc (fun r u t H1 locs1 ht hvm hw hB hz1 hk1 hS => ?_)
        have hw9 : r = 1 := hw
        rw [hw9]
        obtain ⟨hP, hD, hK⟩ := pst_join (wc := []) (wr := [(x, .inr (21, [.ref s0, .int th])), (s0, .inr (20, [.ref l0, .ref l1, .ref l2, .ref l3, .ref l4, .ref l5, .ref l6, .ref l7, .ref l8, .int 10, .int 100, .int 50, .int 0, .int 0])), (l3, .inr (5, [.int 0, .ref (E 0), .int 0])), (l4, .inr (5, [.int 0, .ref (E 0), .int 0]))]) (w1 := []) (tr := []) (t1 := []) hP hD hK [] [0, 1, 2, 3] [] rfl rfl rfl (by decide) (by decide) hk1 hFc ht hvm hB
        generalize H1 = H at hP hS ⊢
        have hP : va_P (dC, dI) vwCl [(x, .inr (21, [.ref s0, .int th])), (s0, .inr (20, [.ref l0, .ref l1, .ref l2, .ref l3, .ref l4, .ref l5, .ref l6, .ref l7, .ref l8, .int 10, .int 100, .int 50, .int 0, .int 0])), (l3, .inr (5, [.int 0, .ref (E 0), .int 0])), (l4, .inr (5, [.int 0, .ref (E 0), .int 0]))] H := hP
        have hD : va_D A [(x, .inr (21, [.ref s0, .int th])), (s0, .inr (20, [.ref l0, .ref l1, .ref l2, .ref l3, .ref l4, .ref l5, .ref l6, .ref l7, .ref l8, .int 10, .int 100, .int 50, .int 0, .int 0])), (l3, .inr (5, [.int 0, .ref (E 0), .int 0])), (l4, .inr (5, [.int 0, .ref (E 0), .int 0]))] := hD
        have hK : va_K (dC, dI) vwCl [] s := hK
        refine W.widen (k := 0) (n := 0) (Nat.le_of_ble_eq_true rfl) (Nat.le_of_ble_eq_true rfl) ?_
        refine lv_if_eq (tgt := 49) hx hb dX15_send_31 (by decide) (fun c9 => absurd c9 (by decide)) (fun _ => ?_)
        refine lv_iload hx hb dX15_send_34 (lv_at hl 4 rfl) ?_
        refine lv_iconst (v := 0) hx hb dX15_send_36 (by decide) ?_
        refine lv_bipush (v := 99) hx hb dX15_send_37 (by decide) ?_
        have hPc := hP.sub (ws' := []) [] rfl
        have hDc := hD.sub (ws' := []) [] (by decide) rfl
        have hKc := hK.sub (tys' := []) [] rfl
        have hFc := va_free (wc := []) hD hS hA [] rfl
        refine va_calli (va_runS (As := [.int c4, .int 0, .int 99]) (rest := []) ⟨hx, hb, hml, hown, hts⟩ (c_rm_isIn_y l dC dI E c4 0 99 H.size hla2 hua2) (va_cwS 3 hts gX15_send_X15_isIn rfl rfl rfl (by decide +kernel) ⟨(Nat.le_of_ble_eq_true rfl), (Nat.le_of_ble_eq_true rfl)⟩) ⟨pre_blind, pre_call hPc hDc hKc hFc hE hZ hS⟩ rfl rfl hl.1 rfl (lv_room (Nat.le_of_ble_eq_true rfl)) dX15_send_39 ⟨(Nat.le_of_ble_eq_true rfl), (Nat.le_of_ble_eq_true rfl)⟩) hS (fun q _ h => hFc q h) hFc (fun r u t H1 locs1 ht hvm hw hB hz1 hk1 hS => ?_)
        have hw9 : r = 1 := hw
        rw [hw9]
        obtain ⟨hP, hD, hK⟩ := pst_join (wc := []) (wr := [(x, .inr (21, [.ref s0, .int th])), (s0, .inr (20, [.ref l0, .ref l1, .ref l2, .ref l3, .ref l4, .ref l5, .ref l6, .ref l7, .ref l8, .int 10, .int 100, .int 50, .int 0, .int 0])), (l3, .inr (5, [.int 0, .ref (E 0), .int 0])), (l4, .inr (5, [.int 0, .ref (E 0), .int 0]))]) (w1 := []) (tr := []) (t1 := []) hP hD hK [] [0, 1, 2, 3] [] rfl rfl rfl (by decide) (by decide) hk1 hFc ht hvm hB
        generalize H1 = H at hP hS ⊢
        have hP : va_P (dC, dI) vwCl [(x, .inr (21, [.ref s0, .int th])), (s0, .inr (20, [.ref l0, .ref l1, .ref l2, .ref l3, .ref l4, .ref l5, .ref l6, .ref l7, .ref l8, .int 10, .int 100, .int 50, .int 0, .int 0])), (l3, .inr (5, [.int 0, .ref (E 0), .int 0])), (l4, .inr (5, [.int 0, .ref (E 0), .int 0]))] H := hP
        have hD : va_D A [(x, .inr (21, [.ref s0, .int th])), (s0, .inr (20, [.ref l0, .ref l1, .ref l2, .ref l3, .ref l4, .ref l5, .ref l6, .ref l7, .ref l8, .int 10, .int 100, .int 50, .int 0, .int 0])), (l3, .inr (5, [.int 0, .ref (E 0), .int 0])), (l4, .inr (5, [.int 0, .ref (E 0), .int 0]))] := hD
        have hK : va_K (dC, dI) vwCl [] s := hK
        refine W.widen (k := 0) (n := 0) (Nat.le_of_ble_eq_true rfl) (Nat.le_of_ble_eq_true rfl) ?_
        refine lv_if_eq (tgt := 49) hx hb dX15_send_42 (by decide) (fun c9 => absurd c9 (by decide)) (fun _ => ?_)
        refine lv_iconst (v := 1) hx hb dX15_send_45 (by decide) ?_
        refine lv_goto (tgt := 50) hx hb dX15_send_46 (by decide) ?_
        refine lv_istore (lv' := [(5, .int 1), (0, .ref x), (1, .int k), (2, .int a), (3, .int b), (4, .int c4)]) hx hb dX15_send_50 hl (by decide) rfl (fun ls hl => ?_)
        refine lv_aload_n hx hb dX15_send_52 rfl (lv_at hl 1 rfl) ?_
        refine lv_iload hx hb dX15_send_53 (lv_at hl 0 rfl) ?_
        refine lv_iconst (v := 1) hx hb dX15_send_55 (by decide) ?_
        have hPc := hP.sub (ws' := [(x, .inr (21, [.ref s0, .int th]))]) [0] rfl
        have hDc := hD.sub (ws' := [(x, .inr (21, [.ref s0, .int th]))]) [0] (by decide) rfl
        have hKc := hK.sub (tys' := []) [] rfl
        have hFc := va_free (wc := [(x, .inr (21, [.ref s0, .int th]))]) hD hS hA [0] rfl
        refine va_calli (va_runV (As := [.int 1, .int 1]) (rest := []) ⟨hx, hb, hml, hown, hts⟩ (c_rm_no_1 l dC dI E x s0 th 1 H.size) (cwV 2 hts gX15_send_X15_no rfl rfl rfl (by decide +kernel) ⟨(Nat.le_of_ble_eq_true rfl), (Nat.le_of_ble_eq_true rfl)⟩) ⟨pre_blind, va_recv hKc hPc (ci := 21) (q0 := 0) rfl rfl, pre_call hPc hDc hKc hFc hE hZ hS⟩ rfl rfl hl.1 rfl (lv_room (Nat.le_of_ble_eq_true rfl)) dX15_send_56 ⟨(Nat.le_of_ble_eq_true rfl), (Nat.le_of_ble_eq_true rfl)⟩) hS (fun q _ h => hFc q h) hFc (fun r u t H1 locs1 ht hvm hw hB hz1 hk1 hS => ?_)
        have hw9 : r = 0 := hw
        rw [hw9]
        obtain ⟨hP, hD, hK⟩ := pst_join (wc := [(x, .inr (21, [.ref s0, .int th]))]) (wr := [(s0, .inr (20, [.ref l0, .ref l1, .ref l2, .ref l3, .ref l4, .ref l5, .ref l6, .ref l7, .ref l8, .int 10, .int 100, .int 50, .int 0, .int 0])), (l3, .inr (5, [.int 0, .ref (E 0), .int 0])), (l4, .inr (5, [.int 0, .ref (E 0), .int 0]))]) (w1 := [(x, .inr (21, [.ref s0, .int 0]))]) (tr := []) (t1 := []) hP hD hK [0] [1, 2, 3] [] rfl rfl rfl (by decide) (by decide) hk1 hFc ht hvm hB
        generalize H1 = H at hP hS ⊢
        have hP : va_P (dC, dI) vwCl [(s0, .inr (20, [.ref l0, .ref l1, .ref l2, .ref l3, .ref l4, .ref l5, .ref l6, .ref l7, .ref l8, .int 10, .int 100, .int 50, .int 0, .int 0])), (l3, .inr (5, [.int 0, .ref (E 0), .int 0])), (l4, .inr (5, [.int 0, .ref (E 0), .int 0])), (x, .inr (21, [.ref s0, .int 0]))] H := hP
        have hD : va_D A [(s0, .inr (20, [.ref l0, .ref l1, .ref l2, .ref l3, .ref l4, .ref l5, .ref l6, .ref l7, .ref l8, .int 10, .int 100, .int 50, .int 0, .int 0])), (l3, .inr (5, [.int 0, .ref (E 0), .int 0])), (l4, .inr (5, [.int 0, .ref (E 0), .int 0])), (x, .inr (21, [.ref s0, .int 0]))] := hD
        have hK : va_K (dC, dI) vwCl [] s := hK
        refine W.widen (k := 0) (n := 0) (Nat.le_of_ble_eq_true rfl) (Nat.le_of_ble_eq_true rfl) ?_
        refine lv_if_ne (tgt := 95) hx hb dX15_send_59 (by decide) (fun c9 => absurd (by decide) c9) (fun _ => ?_)
        refine lv_aload_n hx hb dX15_send_62 rfl (lv_at hl 1 rfl) ?_
        refine lv_iload_n hx hb dX15_send_63 rfl (lv_at hl 2 rfl) ?_
        refine lv_bipush (v := 110) hx hb dX15_send_64 (by decide) ?_
        refine lv_icmp_eq (tgt := 75) hx hb dX15_send_66 (by decide) (fun c_62 => ?_) (fun c_62 => ?_)
        · refine lv_aload_n hx hb dX15_send_75 rfl (lv_at hl 1 rfl) ?_
          refine lv_iload_n hx hb dX15_send_76 rfl (lv_at hl 3 rfl) ?_
          have hPc := hP.sub (ws' := [(x, .inr (21, [.ref s0, .int 0])), (s0, .inr (20, [.ref l0, .ref l1, .ref l2, .ref l3, .ref l4, .ref l5, .ref l6, .ref l7, .ref l8, .int 10, .int 100, .int 50, .int 0, .int 0])), (l4, .inr (5, [.int 0, .ref (E 0), .int 0]))]) [3, 0, 2] rfl
          have hDc := hD.sub (ws' := [(x, .inr (21, [.ref s0, .int 0])), (s0, .inr (20, [.ref l0, .ref l1, .ref l2, .ref l3, .ref l4, .ref l5, .ref l6, .ref l7, .ref l8, .int 10, .int 100, .int 50, .int 0, .int 0])), (l4, .inr (5, [.int 0, .ref (E 0), .int 0]))]) [3, 0, 2] (by decide) rfl
          have hKc := hK.sub (tys' := []) [] rfl
          have hFc := va_free (wc := [(x, .inr (21, [.ref s0, .int 0])), (s0, .inr (20, [.ref l0, .ref l1, .ref l2, .ref l3, .ref l4, .ref l5, .ref l6, .ref l7, .ref l8, .int 10, .int 100, .int 50, .int 0, .int 0])), (l4, .inr (5, [.int 0, .ref (E 0), .int 0]))]) hD hS hA [3, 0, 2] rfl
          refine va_calli (va_runV (As := [.int a]) (rest := [.ref x]) ⟨hx, hb, hml, hown, hts⟩ (c_rm_isDevice l dC dI E x s0 l0 l1 l2 l3 l4 l5 l6 l7 l8 0 a H.size) (cwV 1 hts gX15_send_X15_isDevice rfl rfl rfl (by decide +kernel) ⟨(Nat.le_of_ble_eq_true rfl), (Nat.le_of_ble_eq_true rfl)⟩) ⟨pre_blind, va_recv hKc hPc (ci := 21) (q0 := 0) rfl rfl, pre_call hPc hDc hKc hFc hE hZ hS⟩ rfl rfl hl.1 rfl (lv_room (Nat.le_of_ble_eq_true rfl)) dX15_send_77 ⟨(Nat.le_of_ble_eq_true rfl), (Nat.le_of_ble_eq_true rfl)⟩) hS (fun q _ h => hFc q h) hFc (fun r u t H1 locs1 ht hvm hw hB hz1 hk1 hS => ?_)
          have hw9 : r = 0 := hw
          rw [hw9]
          obtain ⟨hP, hD, hK⟩ := pst_join (wc := [(x, .inr (21, [.ref s0, .int 0])), (s0, .inr (20, [.ref l0, .ref l1, .ref l2, .ref l3, .ref l4, .ref l5, .ref l6, .ref l7, .ref l8, .int 10, .int 100, .int 50, .int 0, .int 0])), (l4, .inr (5, [.int 0, .ref (E 0), .int 0]))]) (wr := [(l3, .inr (5, [.int 0, .ref (E 0), .int 0]))]) (w1 := [(x, .inr (21, [.ref s0, .int 0])), (s0, .inr (20, [.ref l0, .ref l1, .ref l2, .ref l3, .ref l4, .ref l5, .ref l6, .ref l7, .ref l8, .int 10, .int 100, .int 50, .int 0, .int 0])), (l4, .inr (5, [.int 0, .ref (E 0), .int 0]))]) (tr := []) (t1 := []) hP hD hK [3, 0, 2] [1] [] rfl rfl rfl (by decide) (by decide) hk1 hFc ht hvm hB
          generalize H1 = H at hP hS ⊢
          have hP : va_P (dC, dI) vwCl [(l3, .inr (5, [.int 0, .ref (E 0), .int 0])), (x, .inr (21, [.ref s0, .int 0])), (s0, .inr (20, [.ref l0, .ref l1, .ref l2, .ref l3, .ref l4, .ref l5, .ref l6, .ref l7, .ref l8, .int 10, .int 100, .int 50, .int 0, .int 0])), (l4, .inr (5, [.int 0, .ref (E 0), .int 0]))] H := hP
          have hD : va_D A [(l3, .inr (5, [.int 0, .ref (E 0), .int 0])), (x, .inr (21, [.ref s0, .int 0])), (s0, .inr (20, [.ref l0, .ref l1, .ref l2, .ref l3, .ref l4, .ref l5, .ref l6, .ref l7, .ref l8, .int 10, .int 100, .int 50, .int 0, .int 0])), (l4, .inr (5, [.int 0, .ref (E 0), .int 0]))] := hD
          have hK : va_K (dC, dI) vwCl [] s := hK
          refine W.widen (k := 0) (n := 0) (Nat.le_of_ble_eq_true rfl) (Nat.le_of_ble_eq_true rfl) ?_
          refine lv_goto (tgt := 88) hx hb dX15_send_80 (by decide) ?_
          refine lv_iconst (v := 2) hx hb dX15_send_88 (by decide) ?_
          have hPc := hP.sub (ws' := [(x, .inr (21, [.ref s0, .int 0]))]) [1] rfl
          have hDc := hD.sub (ws' := [(x, .inr (21, [.ref s0, .int 0]))]) [1] (by decide) rfl
          have hKc := hK.sub (tys' := []) [] rfl
          have hFc := va_free (wc := [(x, .inr (21, [.ref s0, .int 0]))]) hD hS hA [1] rfl
          refine va_calli (va_runV (As := [.int 0, .int 2]) (rest := []) ⟨hx, hb, hml, hown, hts⟩ (c_rm_no_0 l dC dI E x s0 0 2 H.size) (cwV 2 hts gX15_send_X15_no rfl rfl rfl (by decide +kernel) ⟨(Nat.le_of_ble_eq_true rfl), (Nat.le_of_ble_eq_true rfl)⟩) ⟨pre_blind, va_recv hKc hPc (ci := 21) (q0 := 0) rfl rfl, pre_call hPc hDc hKc hFc hE hZ hS⟩ rfl rfl hl.1 rfl (lv_room (Nat.le_of_ble_eq_true rfl)) dX15_send_89 ⟨(Nat.le_of_ble_eq_true rfl), (Nat.le_of_ble_eq_true rfl)⟩) hS (fun q _ h => hFc q h) hFc (fun r u t H1 locs1 ht hvm hw hB hz1 hk1 hS => ?_)
          have hw9 : r = 1 := hw
          rw [hw9]
          obtain ⟨hP, hD, hK⟩ := pst_join (wc := [(x, .inr (21, [.ref s0, .int 0]))]) (wr := [(l3, .inr (5, [.int 0, .ref (E 0), .int 0])), (s0, .inr (20, [.ref l0, .ref l1, .ref l2, .ref l3, .ref l4, .ref l5, .ref l6, .ref l7, .ref l8, .int 10, .int 100, .int 50, .int 0, .int 0])), (l4, .inr (5, [.int 0, .ref (E 0), .int 0]))]) (w1 := [(x, .inr (21, [.ref s0, .int 2]))]) (tr := []) (t1 := []) hP hD hK [1] [0, 2, 3] [] rfl rfl rfl (by decide) (by decide) hk1 hFc ht hvm hB
          generalize H1 = H at hP hS ⊢
          have hP : va_P (dC, dI) vwCl [(l3, .inr (5, [.int 0, .ref (E 0), .int 0])), (s0, .inr (20, [.ref l0, .ref l1, .ref l2, .ref l3, .ref l4, .ref l5, .ref l6, .ref l7, .ref l8, .int 10, .int 100, .int 50, .int 0, .int 0])), (l4, .inr (5, [.int 0, .ref (E 0), .int 0])), (x, .inr (21, [.ref s0, .int 2]))] H := hP
          have hD : va_D A [(l3, .inr (5, [.int 0, .ref (E 0), .int 0])), (s0, .inr (20, [.ref l0, .ref l1, .ref l2, .ref l3, .ref l4, .ref l5, .ref l6, .ref l7, .ref l8, .int 10, .int 100, .int 50, .int 0, .int 0])), (l4, .inr (5, [.int 0, .ref (E 0), .int 0])), (x, .inr (21, [.ref s0, .int 2]))] := hD
          have hK : va_K (dC, dI) vwCl [] s := hK
          refine W.widen (k := 0) (n := 0) (Nat.le_of_ble_eq_true rfl) (Nat.le_of_ble_eq_true rfl) ?_
          refine lv_if_eq (tgt := 97) hx hb dX15_send_92 (by decide) (fun c9 => absurd c9 (by decide)) (fun _ => ?_)
          refine lv_iconst (v := 0) hx hb dX15_send_95 (by decide) ?_
          have hP9 := hP.sub (ws' := [(x, .inr (21, [.ref s0, .int 2]))]) [3] rfl
          have hD9 := hD.sub (ws' := [(x, .inr (21, [.ref s0, .int 2]))]) [3] (by decide) rfl
          have hK9 := hK.sub (tys' := []) [] rfl
          refine W.widen (k := 0) (n := 0) (Nat.le_of_ble_eq_true rfl) (Nat.le_of_ble_eq_true rfl) ?_
          exact W.iret (v := 0) hx hb hr (fun t ht hW => ⟨⟨0, (), rfl, rfl, pst_of hP9 hD9 hK9 ht hW⟩, hS.F ht⟩) hS.2.2 dX15_send_96
        · refine lv_iload_n hx hb dX15_send_69 rfl (lv_at hl 2 rfl) ?_
          refine lv_bipush (v := 102) hx hb dX15_send_70 (by decide) ?_
          refine lv_icmp_ne (tgt := 83) hx hb dX15_send_72 (by decide) (fun c_66 => ?_) (fun c_66 => ?_)
          · refine lv_aload_n hx hb dX15_send_83 rfl (lv_at hl 1 rfl) ?_
            refine lv_iload_n hx hb dX15_send_84 rfl (lv_at hl 3 rfl) ?_
            have hPc := hP.sub (ws' := [(x, .inr (21, [.ref s0, .int 0])), (s0, .inr (20, [.ref l0, .ref l1, .ref l2, .ref l3, .ref l4, .ref l5, .ref l6, .ref l7, .ref l8, .int 10, .int 100, .int 50, .int 0, .int 0])), (l3, .inr (5, [.int 0, .ref (E 0), .int 0]))]) [3, 0, 1] rfl
            have hDc := hD.sub (ws' := [(x, .inr (21, [.ref s0, .int 0])), (s0, .inr (20, [.ref l0, .ref l1, .ref l2, .ref l3, .ref l4, .ref l5, .ref l6, .ref l7, .ref l8, .int 10, .int 100, .int 50, .int 0, .int 0])), (l3, .inr (5, [.int 0, .ref (E 0), .int 0]))]) [3, 0, 1] (by decide) rfl
            have hKc := hK.sub (tys' := []) [] rfl
            have hFc := va_free (wc := [(x, .inr (21, [.ref s0, .int 0])), (s0, .inr (20, [.ref l0, .ref l1, .ref l2, .ref l3, .ref l4, .ref l5, .ref l6, .ref l7, .ref l8, .int 10, .int 100, .int 50, .int 0, .int 0])), (l3, .inr (5, [.int 0, .ref (E 0), .int 0]))]) hD hS hA [3, 0, 1] rfl
            refine va_calli (va_runV (As := [.int a]) (rest := [.ref x]) ⟨hx, hb, hml, hown, hts⟩ (c_rm_isHatch l dC dI E x s0 l0 l1 l2 l3 l4 l5 l6 l7 l8 0 a H.size) (cwV 1 hts gX15_send_X15_isHatch rfl rfl rfl (by decide +kernel) ⟨(Nat.le_of_ble_eq_true rfl), (Nat.le_of_ble_eq_true rfl)⟩) ⟨pre_blind, va_recv hKc hPc (ci := 21) (q0 := 0) rfl rfl, pre_call hPc hDc hKc hFc hE hZ hS⟩ rfl rfl hl.1 rfl (lv_room (Nat.le_of_ble_eq_true rfl)) dX15_send_85 ⟨(Nat.le_of_ble_eq_true rfl), (Nat.le_of_ble_eq_true rfl)⟩) hS (fun q _ h => hFc q h) hFc (fun r u t H1 locs1 ht hvm hw hB hz1 hk1 hS => ?_)
            have hw9 : r = 0 := hw
            rw [hw9]
            obtain ⟨hP, hD, hK⟩ := pst_join (wc := [(x, .inr (21, [.ref s0, .int 0])), (s0, .inr (20, [.ref l0, .ref l1, .ref l2, .ref l3, .ref l4, .ref l5, .ref l6, .ref l7, .ref l8, .int 10, .int 100, .int 50, .int 0, .int 0])), (l3, .inr (5, [.int 0, .ref (E 0), .int 0]))]) (wr := [(l4, .inr (5, [.int 0, .ref (E 0), .int 0]))]) (w1 := [(x, .inr (21, [.ref s0, .int 0])), (s0, .inr (20, [.ref l0, .ref l1, .ref l2, .ref l3, .ref l4, .ref l5, .ref l6, .ref l7, .ref l8, .int 10, .int 100, .int 50, .int 0, .int 0])), (l3, .inr (5, [.int 0, .ref (E 0), .int 0]))]) (tr := []) (t1 := []) hP hD hK [3, 0, 1] [2] [] rfl rfl rfl (by decide) (by decide) hk1 hFc ht hvm hB
            generalize H1 = H at hP hS ⊢
            have hP : va_P (dC, dI) vwCl [(l4, .inr (5, [.int 0, .ref (E 0), .int 0])), (x, .inr (21, [.ref s0, .int 0])), (s0, .inr (20, [.ref l0, .ref l1, .ref l2, .ref l3, .ref l4, .ref l5, .ref l6, .ref l7, .ref l8, .int 10, .int 100, .int 50, .int 0, .int 0])), (l3, .inr (5, [.int 0, .ref (E 0), .int 0]))] H := hP
            have hD : va_D A [(l4, .inr (5, [.int 0, .ref (E 0), .int 0])), (x, .inr (21, [.ref s0, .int 0])), (s0, .inr (20, [.ref l0, .ref l1, .ref l2, .ref l3, .ref l4, .ref l5, .ref l6, .ref l7, .ref l8, .int 10, .int 100, .int 50, .int 0, .int 0])), (l3, .inr (5, [.int 0, .ref (E 0), .int 0]))] := hD
            have hK : va_K (dC, dI) vwCl [] s := hK
            refine W.widen (k := 0) (n := 0) (Nat.le_of_ble_eq_true rfl) (Nat.le_of_ble_eq_true rfl) ?_
            refine lv_iconst (v := 2) hx hb dX15_send_88 (by decide) ?_
            have hPc := hP.sub (ws' := [(x, .inr (21, [.ref s0, .int 0]))]) [1] rfl
            have hDc := hD.sub (ws' := [(x, .inr (21, [.ref s0, .int 0]))]) [1] (by decide) rfl
            have hKc := hK.sub (tys' := []) [] rfl
            have hFc := va_free (wc := [(x, .inr (21, [.ref s0, .int 0]))]) hD hS hA [1] rfl
            refine va_calli (va_runV (As := [.int 0, .int 2]) (rest := []) ⟨hx, hb, hml, hown, hts⟩ (c_rm_no_0 l dC dI E x s0 0 2 H.size) (cwV 2 hts gX15_send_X15_no rfl rfl rfl (by decide +kernel) ⟨(Nat.le_of_ble_eq_true rfl), (Nat.le_of_ble_eq_true rfl)⟩) ⟨pre_blind, va_recv hKc hPc (ci := 21) (q0 := 0) rfl rfl, pre_call hPc hDc hKc hFc hE hZ hS⟩ rfl rfl hl.1 rfl (lv_room (Nat.le_of_ble_eq_true rfl)) dX15_send_89 ⟨(Nat.le_of_ble_eq_true rfl), (Nat.le_of_ble_eq_true rfl)⟩) hS (fun q _ h => hFc q h) hFc (fun r u t H1 locs1 ht hvm hw hB hz1 hk1 hS => ?_)
            have hw9 : r = 1 := hw
            rw [hw9]
            obtain ⟨hP, hD, hK⟩ := pst_join (wc := [(x, .inr (21, [.ref s0, .int 0]))]) (wr := [(l4, .inr (5, [.int 0, .ref (E 0), .int 0])), (s0, .inr (20, [.ref l0, .ref l1, .ref l2, .ref l3, .ref l4, .ref l5, .ref l6, .ref l7, .ref l8, .int 10, .int 100, .int 50, .int 0, .int 0])), (l3, .inr (5, [.int 0, .ref (E 0), .int 0]))]) (w1 := [(x, .inr (21, [.ref s0, .int 2]))]) (tr := []) (t1 := []) hP hD hK [1] [0, 2, 3] [] rfl rfl rfl (by decide) (by decide) hk1 hFc ht hvm hB
            generalize H1 = H at hP hS ⊢
            have hP : va_P (dC, dI) vwCl [(l4, .inr (5, [.int 0, .ref (E 0), .int 0])), (s0, .inr (20, [.ref l0, .ref l1, .ref l2, .ref l3, .ref l4, .ref l5, .ref l6, .ref l7, .ref l8, .int 10, .int 100, .int 50, .int 0, .int 0])), (l3, .inr (5, [.int 0, .ref (E 0), .int 0])), (x, .inr (21, [.ref s0, .int 2]))] H := hP
            have hD : va_D A [(l4, .inr (5, [.int 0, .ref (E 0), .int 0])), (s0, .inr (20, [.ref l0, .ref l1, .ref l2, .ref l3, .ref l4, .ref l5, .ref l6, .ref l7, .ref l8, .int 10, .int 100, .int 50, .int 0, .int 0])), (l3, .inr (5, [.int 0, .ref (E 0), .int 0])), (x, .inr (21, [.ref s0, .int 2]))] := hD
            have hK : va_K (dC, dI) vwCl [] s := hK
            refine W.widen (k := 0) (n := 0) (Nat.le_of_ble_eq_true rfl) (Nat.le_of_ble_eq_true rfl) ?_
            refine lv_if_eq (tgt := 97) hx hb dX15_send_92 (by decide) (fun c9 => absurd c9 (by decide)) (fun _ => ?_)
            refine lv_iconst (v := 0) hx hb dX15_send_95 (by decide) ?_
            have hP9 := hP.sub (ws' := [(x, .inr (21, [.ref s0, .int 2]))]) [3] rfl
            have hD9 := hD.sub (ws' := [(x, .inr (21, [.ref s0, .int 2]))]) [3] (by decide) rfl
            have hK9 := hK.sub (tys' := []) [] rfl
            refine W.widen (k := 0) (n := 0) (Nat.le_of_ble_eq_true rfl) (Nat.le_of_ble_eq_true rfl) ?_
            exact W.iret (v := 0) hx hb hr (fun t ht hW => ⟨⟨0, (), rfl, rfl, pst_of hP9 hD9 hK9 ht hW⟩, hS.F ht⟩) hS.2.2 dX15_send_96
          · refine lv_aload_n hx hb dX15_send_75 rfl (lv_at hl 1 rfl) ?_
            refine lv_iload_n hx hb dX15_send_76 rfl (lv_at hl 3 rfl) ?_
            have hPc := hP.sub (ws' := [(x, .inr (21, [.ref s0, .int 0])), (s0, .inr (20, [.ref l0, .ref l1, .ref l2, .ref l3, .ref l4, .ref l5, .ref l6, .ref l7, .ref l8, .int 10, .int 100, .int 50, .int 0, .int 0])), (l4, .inr (5, [.int 0, .ref (E 0), .int 0]))]) [3, 0, 2] rfl
            have hDc := hD.sub (ws' := [(x, .inr (21, [.ref s0, .int 0])), (s0, .inr (20, [.ref l0, .ref l1, .ref l2, .ref l3, .ref l4, .ref l5, .ref l6, .ref l7, .ref l8, .int 10, .int 100, .int 50, .int 0, .int 0])), (l4, .inr (5, [.int 0, .ref (E 0), .int 0]))]) [3, 0, 2] (by decide) rfl
            have hKc := hK.sub (tys' := []) [] rfl
            have hFc := va_free (wc := [(x, .inr (21, [.ref s0, .int 0])), (s0, .inr (20, [.ref l0, .ref l1, .ref l2, .ref l3, .ref l4, .ref l5, .ref l6, .ref l7, .ref l8, .int 10, .int 100, .int 50, .int 0, .int 0])), (l4, .inr (5, [.int 0, .ref (E 0), .int 0]))]) hD hS hA [3, 0, 2] rfl
            refine va_calli (va_runV (As := [.int a]) (rest := [.ref x]) ⟨hx, hb, hml, hown, hts⟩ (c_rm_isDevice l dC dI E x s0 l0 l1 l2 l3 l4 l5 l6 l7 l8 0 a H.size) (cwV 1 hts gX15_send_X15_isDevice rfl rfl rfl (by decide +kernel) ⟨(Nat.le_of_ble_eq_true rfl), (Nat.le_of_ble_eq_true rfl)⟩) ⟨pre_blind, va_recv hKc hPc (ci := 21) (q0 := 0) rfl rfl, pre_call hPc hDc hKc hFc hE hZ hS⟩ rfl rfl hl.1 rfl (lv_room (Nat.le_of_ble_eq_true rfl)) dX15_send_77 ⟨(Nat.le_of_ble_eq_true rfl), (Nat.le_of_ble_eq_true rfl)⟩) hS (fun q _ h => hFc q h) hFc (fun r u t H1 locs1 ht hvm hw hB hz1 hk1 hS => ?_)
            have hw9 : r = 0 := hw
            rw [hw9]
            obtain ⟨hP, hD, hK⟩ := pst_join (wc := [(x, .inr (21, [.ref s0, .int 0])), (s0, .inr (20, [.ref l0, .ref l1, .ref l2, .ref l3, .ref l4, .ref l5, .ref l6, .ref l7, .ref l8, .int 10, .int 100, .int 50, .int 0, .int 0])), (l4, .inr (5, [.int 0, .ref (E 0), .int 0]))]) (wr := [(l3, .inr (5, [.int 0, .ref (E 0), .int 0]))]) (w1 := [(x, .inr (21, [.ref s0, .int 0])), (s0, .inr (20, [.ref l0, .ref l1, .ref l2, .ref l3, .ref l4, .ref l5, .ref l6, .ref l7, .ref l8, .int 10, .int 100, .int 50, .int 0, .int 0])), (l4, .inr (5, [.int 0, .ref (E 0), .int 0]))]) (tr := []) (t1 := []) hP hD hK [3, 0, 2] [1] [] rfl rfl rfl (by decide) (by decide) hk1 hFc ht hvm hB
            generalize H1 = H at hP hS ⊢
            have hP : va_P (dC, dI) vwCl [(l3, .inr (5, [.int 0, .ref (E 0), .int 0])), (x, .inr (21, [.ref s0, .int 0])), (s0, .inr (20, [.ref l0, .ref l1, .ref l2, .ref l3, .ref l4, .ref l5, .ref l6, .ref l7, .ref l8, .int 10, .int 100, .int 50, .int 0, .int 0])), (l4, .inr (5, [.int 0, .ref (E 0), .int 0]))] H := hP
            have hD : va_D A [(l3, .inr (5, [.int 0, .ref (E 0), .int 0])), (x, .inr (21, [.ref s0, .int 0])), (s0, .inr (20, [.ref l0, .ref l1, .ref l2, .ref l3, .ref l4, .ref l5, .ref l6, .ref l7, .ref l8, .int 10, .int 100, .int 50, .int 0, .int 0])), (l4, .inr (5, [.int 0, .ref (E 0), .int 0]))] := hD
            have hK : va_K (dC, dI) vwCl [] s := hK
            refine W.widen (k := 0) (n := 0) (Nat.le_of_ble_eq_true rfl) (Nat.le_of_ble_eq_true rfl) ?_
            refine lv_goto (tgt := 88) hx hb dX15_send_80 (by decide) ?_
            refine lv_iconst (v := 2) hx hb dX15_send_88 (by decide) ?_
            have hPc := hP.sub (ws' := [(x, .inr (21, [.ref s0, .int 0]))]) [1] rfl
            have hDc := hD.sub (ws' := [(x, .inr (21, [.ref s0, .int 0]))]) [1] (by decide) rfl
            have hKc := hK.sub (tys' := []) [] rfl
            have hFc := va_free (wc := [(x, .inr (21, [.ref s0, .int 0]))]) hD hS hA [1] rfl
            refine va_calli (va_runV (As := [.int 0, .int 2]) (rest := []) ⟨hx, hb, hml, hown, hts⟩ (c_rm_no_0 l dC dI E x s0 0 2 H.size) (cwV 2 hts gX15_send_X15_no rfl rfl rfl (by decide +kernel) ⟨(Nat.le_of_ble_eq_true rfl), (Nat.le_of_ble_eq_true rfl)⟩) ⟨pre_blind, va_recv hKc hPc (ci := 21) (q0 := 0) rfl rfl, pre_call hPc hDc hKc hFc hE hZ hS⟩ rfl rfl hl.1 rfl (lv_room (Nat.le_of_ble_eq_true rfl)) dX15_send_89 ⟨(Nat.le_of_ble_eq_true rfl), (Nat.le_of_ble_eq_true rfl)⟩) hS (fun q _ h => hFc q h) hFc (fun r u t H1 locs1 ht hvm hw hB hz1 hk1 hS => ?_)
            have hw9 : r = 1 := hw
            rw [hw9]
            obtain ⟨hP, hD, hK⟩ := pst_join (wc := [(x, .inr (21, [.ref s0, .int 0]))]) (wr := [(l3, .inr (5, [.int 0, .ref (E 0), .int 0])), (s0, .inr (20, [.ref l0, .ref l1, .ref l2, .ref l3, .ref l4, .ref l5, .ref l6, .ref l7, .ref l8, .int 10, .int 100, .int 50, .int 0, .int 0])), (l4, .inr (5, [.int 0, .ref (E 0), .int 0]))]) (w1 := [(x, .inr (21, [.ref s0, .int 2]))]) (tr := []) (t1 := []) hP hD hK [1] [0, 2, 3] [] rfl rfl rfl (by decide) (by decide) hk1 hFc ht hvm hB
            generalize H1 = H at hP hS ⊢
            have hP : va_P (dC, dI) vwCl [(l3, .inr (5, [.int 0, .ref (E 0), .int 0])), (s0, .inr (20, [.ref l0, .ref l1, .ref l2, .ref l3, .ref l4, .ref l5, .ref l6, .ref l7, .ref l8, .int 10, .int 100, .int 50, .int 0, .int 0])), (l4, .inr (5, [.int 0, .ref (E 0), .int 0])), (x, .inr (21, [.ref s0, .int 2]))] H := hP
            have hD : va_D A [(l3, .inr (5, [.int 0, .ref (E 0), .int 0])), (s0, .inr (20, [.ref l0, .ref l1, .ref l2, .ref l3, .ref l4, .ref l5, .ref l6, .ref l7, .ref l8, .int 10, .int 100, .int 50, .int 0, .int 0])), (l4, .inr (5, [.int 0, .ref (E 0), .int 0])), (x, .inr (21, [.ref s0, .int 2]))] := hD
            have hK : va_K (dC, dI) vwCl [] s := hK
            refine W.widen (k := 0) (n := 0) (Nat.le_of_ble_eq_true rfl) (Nat.le_of_ble_eq_true rfl) ?_
            refine lv_if_eq (tgt := 97) hx hb dX15_send_92 (by decide) (fun c9 => absurd c9 (by decide)) (fun _ => ?_)
            refine lv_iconst (v := 0) hx hb dX15_send_95 (by decide) ?_
            have hP9 := hP.sub (ws' := [(x, .inr (21, [.ref s0, .int 2]))]) [3] rfl
            have hD9 := hD.sub (ws' := [(x, .inr (21, [.ref s0, .int 2]))]) [3] (by decide) rfl
            have hK9 := hK.sub (tys' := []) [] rfl
            refine W.widen (k := 0) (n := 0) (Nat.le_of_ble_eq_true rfl) (Nat.le_of_ble_eq_true rfl) ?_
            exact W.iret (v := 0) hx hb hr (fun t ht hW => ⟨⟨0, (), rfl, rfl, pst_of hP9 hD9 hK9 ht hW⟩, hS.F ht⟩) hS.2.2 dX15_send_96

set_option maxHeartbeats 4000000 in
set_option maxRecDepth 100000 in
theorem c_rm_send_n1 (l : Launch) (dC : Nat → ClassId) (dI : Nat → Nat → Nat) (E : Nat → Nat) (x : Nat) (s0 : Nat) (l0 : Nat) (l1 : Nat) (l2 : Nat) (l3 : Nat) (l4 : Nat) (l5 : Nat) (l6 : Nat) (l7 : Nat) (l8 : Nat) (th : Int32) (k : Int32) (a : Int32) (b : Int32) (c4 : Int32) (sz : Nat) (hk : ¬ (k = 110 ∨ k = 102 ∨ k = 111 ∨ k = 104)) : Met l yX15_send wsX15_send ({ frames := 1, cells := 0, slots := 0, locals := 22 }) (va_Pc [.ref x, .int k, .int a, .int b, .int c4] (pre dC dI E [(x, .inr (21, [.ref s0, .int th])), (s0, .inr (20, [.ref l0, .ref l1, .ref l2, .ref l3, .ref l4, .ref l5, .ref l6, .ref l7, .ref l8, .int 10, .int 100, .int 50, .int 0, .int 0]))] [] sz)) (va_Qi (fun (r : Int32) (_ : Unit) => r = 0) (fun _ t => pst dC dI (va_A [(x, .inr (21, [.ref s0, .int th])), (s0, .inr (20, [.ref l0, .ref l1, .ref l2, .ref l3, .ref l4, .ref l5, .ref l6, .ref l7, .ref l8, .int 10, .int 100, .int 50, .int 0, .int 0]))] sz) [(x, .inr (21, [.ref s0, .int 1]))] [] t) (va_A [(x, .inr (21, [.ref s0, .int th])), (s0, .inr (20, [.ref l0, .ref l1, .ref l2, .ref l3, .ref l4, .ref l5, .ref l6, .ref l7, .ref l8, .int 10, .int 100, .int 50, .int 0, .int 0]))] sz)) 0 0 (va_A [(x, .inr (21, [.ref s0, .int th])), (s0, .inr (20, [.ref l0, .ref l1, .ref l2, .ref l3, .ref l4, .ref l5, .ref l6, .ref l7, .ref l8, .int 10, .int 100, .int 50, .int 0, .int 0]))] sz) := by
  refine Met.ofW (cc := cX15_send) (maxL := 6) (ret := (some .int)) (by decide) rfl ?_
  intro p e s m args below meth c s₁ B hml hv
  obtain ⟨rfl, hsz, hP, hK, hD0, hE, hZ0⟩ := hv
  have hx := B.exec
  have hb := B.bytes
  have hr := B.returns
  have hts := atoms_spec (ws := wsX15_send) B.pre
  have hown : s.vm.findClass RX15 = some m.cls := findClass_of_methodNamed B.named
  have hlocks := B.notSynchronized
  subst hsz
  have hD := hD0.self (sz := s.heap.size)
  generalize hAe : va_A [(x, .inr (21, [.ref s0, .int th])), (s0, .inr (20, [.ref l0, .ref l1, .ref l2, .ref l3, .ref l4, .ref l5, .ref l6, .ref l7, .ref l8, .int 10, .int 100, .int 50, .int 0, .int 0]))] s.heap.size = A at hD hZ0 ⊢
  have hZ := hZ0
  have hA : ∀ q : Nat, s.heap.size ≤ q → A q := fun q h => by rw [← hAe]; exact Or.inr h
  have hS : va_S A s.heap s.heap [] := va_S.rf
  have hP : va_P (dC, dI) vwCl [(x, .inr (21, [.ref s0, .int th])), (s0, .inr (20, [.ref l0, .ref l1, .ref l2, .ref l3, .ref l4, .ref l5, .ref l6, .ref l7, .ref l8, .int 10, .int 100, .int 50, .int 0, .int 0]))] s.heap := hP
  have hl := lv_entry ([.ref x, .int k, .int a, .int b, .int c4]) (n := 6) (Nat.le_of_ble_eq_true rfl)
  rw [lg_entry_eq]
  generalize (lg_sl ([.ref x, .int k, .int a, .int b, .int c4]) ++ List.replicate (6 - (lg_sl ([.ref x, .int k, .int a, .int b, .int c4])).length) Slot.unset).toArray = ls at hl ⊢
  have hl : lv_has ls 6 [(0, .ref x), (1, .int k), (2, .int a), (3, .int b), (4, .int c4)] := hl
  refine lv_iload_n hx hb dX15_send_0 rfl (lv_at hl 1 rfl) ?_
  refine lv_bipush (v := 110) hx hb dX15_send_1 (by decide) ?_
  refine lv_icmp_eq (tgt := 24) hx hb dX15_send_3 (by decide) (fun c9 => (hk (Or.inl c9)).elim) (fun c_1 => ?_)
  refine lv_iload_n hx hb dX15_send_6 rfl (lv_at hl 1 rfl) ?_
  refine lv_bipush (v := 102) hx hb dX15_send_7 (by decide) ?_
  refine lv_icmp_eq (tgt := 24) hx hb dX15_send_9 (by decide) (fun c9 => (hk (Or.inr (Or.inl c9))).elim) (fun c_2 => ?_)
  refine lv_iload_n hx hb dX15_send_12 rfl (lv_at hl 1 rfl) ?_
  refine lv_bipush (v := 111) hx hb dX15_send_13 (by decide) ?_
  refine lv_icmp_eq (tgt := 24) hx hb dX15_send_15 (by decide) (fun c9 => (hk (Or.inr (Or.inr (Or.inl c9)))).elim) (fun c_3 => ?_)
  refine lv_iload_n hx hb dX15_send_18 rfl (lv_at hl 1 rfl) ?_
  refine lv_bipush (v := 104) hx hb dX15_send_19 (by decide) ?_
  refine lv_icmp_ne (tgt := 49) hx hb dX15_send_21 (by decide) (fun c_4 => ?_) (fun c9 => (hk (Or.inr (Or.inr (Or.inr c9)))).elim)
  refine lv_iconst (v := 0) hx hb dX15_send_49 (by decide) ?_
  refine lv_istore (lv' := [(5, .int 0), (0, .ref x), (1, .int k), (2, .int a), (3, .int b), (4, .int c4)]) hx hb dX15_send_50 hl (by decide) rfl (fun ls hl => ?_)
  refine lv_aload_n hx hb dX15_send_52 rfl (lv_at hl 1 rfl) ?_
  refine lv_iload hx hb dX15_send_53 (lv_at hl 0 rfl) ?_
  refine lv_iconst (v := 1) hx hb dX15_send_55 (by decide) ?_
  have hPc := hP.sub (ws' := [(x, .inr (21, [.ref s0, .int th]))]) [0] rfl
  have hDc := hD.sub (ws' := [(x, .inr (21, [.ref s0, .int th]))]) [0] (by decide) rfl
  have hKc := hK.sub (tys' := []) [] rfl
  have hFc := va_free (wc := [(x, .inr (21, [.ref s0, .int th]))]) hD hS hA [0] rfl
  refine va_calli (va_runV (As := [.int 0, .int 1]) (rest := []) ⟨hx, hb, hml, hown, hts⟩ (c_rm_no_0 l dC dI E x s0 th 1 s.heap.size) (cwV 2 hts gX15_send_X15_no rfl rfl rfl (by decide +kernel) ⟨(Nat.le_of_ble_eq_true rfl), (Nat.le_of_ble_eq_true rfl)⟩) ⟨pre_blind, va_recv hKc hPc (ci := 21) (q0 := 0) rfl rfl, pre_call hPc hDc hKc hFc hE hZ hS⟩ rfl rfl hl.1 rfl (lv_room (Nat.le_of_ble_eq_true rfl)) dX15_send_56 ⟨(Nat.le_of_ble_eq_true rfl), (Nat.le_of_ble_eq_true rfl)⟩) hS (fun q _ h => hFc q h) hFc (fun r u t H1 locs1 ht hvm hw hB hz1 hk1 hS => ?_)
  have hw9 : r = 1 := hw
  rw [hw9]
  obtain ⟨hP, hD, hK⟩ := pst_join (wc := [(x, .inr (21, [.ref s0, .int th]))]) (wr := [(s0, .inr (20, [.ref l0, .ref l1, .ref l2, .ref l3, .ref l4, .ref l5, .ref l6, .ref l7, .ref l8, .int 10, .int 100, .int 50, .int 0, .int 0]))]) (w1 := [(x, .inr (21, [.ref s0, .int 1]))]) (tr := []) (t1 := []) hP hD hK [0] [1] [] rfl rfl rfl (by decide) (by decide) hk1 hFc ht hvm hB
  generalize H1 = H at hP hS ⊢
  have hP : va_P (dC, dI) vwCl [(s0, .inr (20, [.ref l0, .ref l1, .ref l2, .ref l3, .ref l4, .ref l5, .ref l6, .ref l7, .ref l8, .int 10, .int 100, .int 50, .int 0, .int 0])), (x, .inr (21, [.ref s0, .int 1]))] H := hP
  have hD : va_D A [(s0, .inr (20, [.ref l0, .ref l1, .ref l2, .ref l3, .ref l4, .ref l5, .ref l6, .ref l7, .ref l8, .int 10, .int 100, .int 50, .int 0, .int 0])), (x, .inr (21, [.ref s0, .int 1]))] := hD
  have hK : va_K (dC, dI) vwCl [] s := hK
  refine W.widen (k := 0) (n := 0) (Nat.le_of_ble_eq_true rfl) (Nat.le_of_ble_eq_true rfl) ?_
  refine lv_if_ne (tgt := 95) hx hb dX15_send_59 (by decide) (fun _ => ?_) (fun c9 => absurd c9 (by decide))
  refine lv_iconst (v := 0) hx hb dX15_send_95 (by decide) ?_
  have hP9 := hP.sub (ws' := [(x, .inr (21, [.ref s0, .int 1]))]) [1] rfl
  have hD9 := hD.sub (ws' := [(x, .inr (21, [.ref s0, .int 1]))]) [1] (by decide) rfl
  have hK9 := hK.sub (tys' := []) [] rfl
  refine W.widen (k := 0) (n := 0) (Nat.le_of_ble_eq_true rfl) (Nat.le_of_ble_eq_true rfl) ?_
  exact W.iret (v := 0) hx hb hr (fun t ht hW => ⟨⟨0, (), rfl, rfl, pst_of hP9 hD9 hK9 ht hW⟩, hS.F ht⟩) hS.2.2 dX15_send_96

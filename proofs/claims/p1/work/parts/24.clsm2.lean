set_option maxHeartbeats 4000000 in
set_option maxRecDepth 100000 in
theorem c_cx_send_n2 (l : Launch) (hst : l.stackTraces = false) (dC : Nat → ClassId) (dI : Nat → Nat → Nat) (E : Nat → Nat) (x : Nat) (k : Int32) (a : Int32) (b : Int32) (c4 : Int32) (sz : Nat) (hk : k = 110 ∨ k = 102 ∨ k = 111 ∨ k = 104) (h : ¬ (¬ b < 1 ∧ ¬ 99 < b)) : vx_Met l yX8_send wsX8_send ({ frames := 7, cells := 1, slots := 6, locals := 104 }) (va_Pc [.ref x, .int k, .int a, .int b, .int c4] (pre dC dI E [] [] sz)) (va_Qi (fun (_ : Int32) (_ : Unit) => False) (fun _ _ => True) (va_A [] sz)) (vx_X (fun _ : Unit => True) (fun E9 _ _ => E9 = "java/lang/IllegalArgumentException") (va_A [] sz)) 1 6 (va_A [] sz) := by
  refine vx_ofW (cc := cX8_send) (maxL := 6) (ret := (some .int)) (by decide) rfl ?_
  intro p e s m args below meth c s₁ B hml htab hv
  obtain ⟨rfl, hsz, hP, hK, hD0, hE, hZ0⟩ := hv
  have hx := B.exec
  have hb := B.bytes
  have hr := B.returns
  have hts := atoms_spec (ws := wsX8_send) B.pre
  have hown : s.vm.findClass RX8 = some m.cls := findClass_of_methodNamed B.named
  have hlocks := B.notSynchronized
  subst hsz
  have hD := hD0.self (sz := s.heap.size)
  generalize hAe : va_A [] s.heap.size = A at hD hZ0 ⊢
  have hZ := hZ0
  have hA : ∀ q : Nat, s.heap.size ≤ q → A q := fun q h => by rw [← hAe]; exact Or.inr h
  have hS : va_S A s.heap s.heap [] := va_S.rf
  have hP : va_P (dC, dI) vwCl [] s.heap := hP
  have hl := lv_entry ([.ref x, .int k, .int a, .int b, .int c4]) (n := 6) (Nat.le_of_ble_eq_true rfl)
  rw [lg_entry_eq]
  generalize (lg_sl ([.ref x, .int k, .int a, .int b, .int c4]) ++ List.replicate (6 - (lg_sl ([.ref x, .int k, .int a, .int b, .int c4])).length) Slot.unset).toArray = ls at hl ⊢
  have hl : lv_has ls 6 [(0, .ref x), (1, .int k), (2, .int a), (3, .int b), (4, .int c4)] := hl
  refine lv_iload_n hx hb dX8_send_0 rfl (lv_at hl 1 rfl) ?_
  refine lv_bipush (v := 110) hx hb dX8_send_1 (by decide) ?_
  refine lv_icmp_eq (tgt := 12) hx hb dX8_send_3 (by decide) (fun c_1 => ?_) (fun c_1 => ?_)
  · refine lv_iconst (v := 1) hx hb dX8_send_12 (by decide) ?_
    refine lv_goto (tgt := 17) hx hb dX8_send_13 (by decide) ?_
    refine lv_istore (lv' := [(5, .int 1), (0, .ref x), (1, .int k), (2, .int a), (3, .int b), (4, .int c4)]) hx hb dX8_send_17 hl (by decide) rfl (fun ls hl => ?_)
    refine lv_iload hx hb dX8_send_19 (lv_at hl 0 rfl) ?_
    refine lv_if_ne (tgt := 46) hx hb dX8_send_21 (by decide) (fun _ => ?_) (fun c9 => absurd c9 (by decide))
    refine lv_iload_n hx hb dX8_send_46 rfl (lv_at hl 4 rfl) ?_
    refine lv_iconst (v := 1) hx hb dX8_send_47 (by decide) ?_
    refine lv_bipush (v := 99) hx hb dX8_send_48 (by decide) ?_
    have hPc := hP.sub (ws' := []) [] rfl
    have hDc := hD.sub (ws' := []) [] (by decide) rfl
    have hKc := hK.sub (tys' := []) [] rfl
    have hFc := va_free (wc := []) hD hS hA [] rfl
    refine vx_callv (vx_runS (As := [.int b, .int 1, .int 99]) (rest := []) ⟨hx, hb, hml, hown, hts⟩ (c_rqRg_n l hst dC dI E b 1 99 s.heap.size h) (va_cwS 3 hts gX8_send_X8_requireRange rfl rfl rfl (by decide +kernel) ⟨(Nat.le_of_ble_eq_true rfl), (Nat.le_of_ble_eq_true rfl)⟩) ⟨pre_blind, pre_call hPc hDc hKc hFc hE hZ hS⟩ rfl rfl hl.1 rfl (lv_room (Nat.le_of_ble_eq_true rfl)) dX8_send_50 ⟨(Nat.le_of_ble_eq_true rfl), (Nat.le_of_ble_eq_true rfl)⟩) hS (fun q _ h => hFc q h) hFc (fun q _ h => hFc q h) (fun E9 ce q9 u t H1 locs1 ht hvm hw hB hz1 hk1 hS hc9 hv9 hf9 => ?_) (fun u t H1 locs1 ht hvm hw hB hz1 hk1 hS => hw.elim)
    obtain rfl := hB
    exact vx_out (fun x h => (htab x h).elim) hlocks hc9 hv9 hf9 (fun t2 ht2 _ => ⟨(), trivial, rfl, hS.F ht2⟩) hS.2.2 (Nat.le_of_ble_eq_true rfl) (Nat.le_of_ble_eq_true rfl)
  · refine lv_iload_n hx hb dX8_send_6 rfl (lv_at hl 1 rfl) ?_
    refine lv_bipush (v := 102) hx hb dX8_send_7 (by decide) ?_
    refine lv_icmp_ne (tgt := 16) hx hb dX8_send_9 (by decide) (fun c_3 => ?_) (fun c_3 => ?_)
    · refine lv_iconst (v := 0) hx hb dX8_send_16 (by decide) ?_
      refine lv_istore (lv' := [(5, .int 0), (0, .ref x), (1, .int k), (2, .int a), (3, .int b), (4, .int c4)]) hx hb dX8_send_17 hl (by decide) rfl (fun ls hl => ?_)
      refine lv_iload hx hb dX8_send_19 (lv_at hl 0 rfl) ?_
      refine lv_if_ne (tgt := 46) hx hb dX8_send_21 (by decide) (fun c9 => absurd (by decide) c9) (fun _ => ?_)
      refine lv_iload_n hx hb dX8_send_24 rfl (lv_at hl 2 rfl) ?_
      refine lv_bipush (v := 111) hx hb dX8_send_25 (by decide) ?_
      refine lv_icmp_eq (tgt := 46) hx hb dX8_send_27 (by decide) (fun c_5 => ?_) (fun c_5 => ?_)
      · refine lv_iload_n hx hb dX8_send_46 rfl (lv_at hl 4 rfl) ?_
        refine lv_iconst (v := 1) hx hb dX8_send_47 (by decide) ?_
        refine lv_bipush (v := 99) hx hb dX8_send_48 (by decide) ?_
        have hPc := hP.sub (ws' := []) [] rfl
        have hDc := hD.sub (ws' := []) [] (by decide) rfl
        have hKc := hK.sub (tys' := []) [] rfl
        have hFc := va_free (wc := []) hD hS hA [] rfl
        refine vx_callv (vx_runS (As := [.int b, .int 1, .int 99]) (rest := []) ⟨hx, hb, hml, hown, hts⟩ (c_rqRg_n l hst dC dI E b 1 99 s.heap.size h) (va_cwS 3 hts gX8_send_X8_requireRange rfl rfl rfl (by decide +kernel) ⟨(Nat.le_of_ble_eq_true rfl), (Nat.le_of_ble_eq_true rfl)⟩) ⟨pre_blind, pre_call hPc hDc hKc hFc hE hZ hS⟩ rfl rfl hl.1 rfl (lv_room (Nat.le_of_ble_eq_true rfl)) dX8_send_50 ⟨(Nat.le_of_ble_eq_true rfl), (Nat.le_of_ble_eq_true rfl)⟩) hS (fun q _ h => hFc q h) hFc (fun q _ h => hFc q h) (fun E9 ce q9 u t H1 locs1 ht hvm hw hB hz1 hk1 hS hc9 hv9 hf9 => ?_) (fun u t H1 locs1 ht hvm hw hB hz1 hk1 hS => hw.elim)
        obtain rfl := hB
        exact vx_out (fun x h => (htab x h).elim) hlocks hc9 hv9 hf9 (fun t2 ht2 _ => ⟨(), trivial, rfl, hS.F ht2⟩) hS.2.2 (Nat.le_of_ble_eq_true rfl) (Nat.le_of_ble_eq_true rfl)
      · refine lv_iload_n hx hb dX8_send_30 rfl (lv_at hl 2 rfl) ?_
        refine lv_bipush (v := 104) hx hb dX8_send_31 (by decide) ?_
        refine lv_icmp_eq (tgt := 46) hx hb dX8_send_33 (by decide) (fun c_6 => ?_) (fun c9 => (hk.elim c_1 (fun h => h.elim c_3 (fun h => h.elim c_5 c9))).elim)
        refine lv_iload_n hx hb dX8_send_46 rfl (lv_at hl 4 rfl) ?_
        refine lv_iconst (v := 1) hx hb dX8_send_47 (by decide) ?_
        refine lv_bipush (v := 99) hx hb dX8_send_48 (by decide) ?_
        have hPc := hP.sub (ws' := []) [] rfl
        have hDc := hD.sub (ws' := []) [] (by decide) rfl
        have hKc := hK.sub (tys' := []) [] rfl
        have hFc := va_free (wc := []) hD hS hA [] rfl
        refine vx_callv (vx_runS (As := [.int b, .int 1, .int 99]) (rest := []) ⟨hx, hb, hml, hown, hts⟩ (c_rqRg_n l hst dC dI E b 1 99 s.heap.size h) (va_cwS 3 hts gX8_send_X8_requireRange rfl rfl rfl (by decide +kernel) ⟨(Nat.le_of_ble_eq_true rfl), (Nat.le_of_ble_eq_true rfl)⟩) ⟨pre_blind, pre_call hPc hDc hKc hFc hE hZ hS⟩ rfl rfl hl.1 rfl (lv_room (Nat.le_of_ble_eq_true rfl)) dX8_send_50 ⟨(Nat.le_of_ble_eq_true rfl), (Nat.le_of_ble_eq_true rfl)⟩) hS (fun q _ h => hFc q h) hFc (fun q _ h => hFc q h) (fun E9 ce q9 u t H1 locs1 ht hvm hw hB hz1 hk1 hS hc9 hv9 hf9 => ?_) (fun u t H1 locs1 ht hvm hw hB hz1 hk1 hS => hw.elim)
        obtain rfl := hB
        exact vx_out (fun x h => (htab x h).elim) hlocks hc9 hv9 hf9 (fun t2 ht2 _ => ⟨(), trivial, rfl, hS.F ht2⟩) hS.2.2 (Nat.le_of_ble_eq_true rfl) (Nat.le_of_ble_eq_true rfl)
    · refine lv_iconst (v := 1) hx hb dX8_send_12 (by decide) ?_
      refine lv_goto (tgt := 17) hx hb dX8_send_13 (by decide) ?_
      refine lv_istore (lv' := [(5, .int 1), (0, .ref x), (1, .int k), (2, .int a), (3, .int b), (4, .int c4)]) hx hb dX8_send_17 hl (by decide) rfl (fun ls hl => ?_)
      refine lv_iload hx hb dX8_send_19 (lv_at hl 0 rfl) ?_
      refine lv_if_ne (tgt := 46) hx hb dX8_send_21 (by decide) (fun _ => ?_) (fun c9 => absurd c9 (by decide))
      refine lv_iload_n hx hb dX8_send_46 rfl (lv_at hl 4 rfl) ?_
      refine lv_iconst (v := 1) hx hb dX8_send_47 (by decide) ?_
      refine lv_bipush (v := 99) hx hb dX8_send_48 (by decide) ?_
      have hPc := hP.sub (ws' := []) [] rfl
      have hDc := hD.sub (ws' := []) [] (by decide) rfl
      have hKc := hK.sub (tys' := []) [] rfl
      have hFc := va_free (wc := []) hD hS hA [] rfl
      refine vx_callv (vx_runS (As := [.int b, .int 1, .int 99]) (rest := []) ⟨hx, hb, hml, hown, hts⟩ (c_rqRg_n l hst dC dI E b 1 99 s.heap.size h) (va_cwS 3 hts gX8_send_X8_requireRange rfl rfl rfl (by decide +kernel) ⟨(Nat.le_of_ble_eq_true rfl), (Nat.le_of_ble_eq_true rfl)⟩) ⟨pre_blind, pre_call hPc hDc hKc hFc hE hZ hS⟩ rfl rfl hl.1 rfl (lv_room (Nat.le_of_ble_eq_true rfl)) dX8_send_50 ⟨(Nat.le_of_ble_eq_true rfl), (Nat.le_of_ble_eq_true rfl)⟩) hS (fun q _ h => hFc q h) hFc (fun q _ h => hFc q h) (fun E9 ce q9 u t H1 locs1 ht hvm hw hB hz1 hk1 hS hc9 hv9 hf9 => ?_) (fun u t H1 locs1 ht hvm hw hB hz1 hk1 hS => hw.elim)
      obtain rfl := hB
      exact vx_out (fun x h => (htab x h).elim) hlocks hc9 hv9 hf9 (fun t2 ht2 _ => ⟨(), trivial, rfl, hS.F ht2⟩) hS.2.2 (Nat.le_of_ble_eq_true rfl) (Nat.le_of_ble_eq_true rfl)

set_option maxHeartbeats 4000000 in
set_option maxRecDepth 100000 in
theorem c_cx_send_n3 (l : Launch) (hst : l.stackTraces = false) (dC : Nat → ClassId) (dI : Nat → Nat → Nat) (E : Nat → Nat) (x : Nat) (k : Int32) (a : Int32) (b : Int32) (c4 : Int32) (sz : Nat) (hk : k = 110 ∨ k = 102 ∨ k = 111 ∨ k = 104) (hla1 : ¬ b < 1) (hua1 : ¬ 99 < b) (h : ¬ (¬ c4 < 0 ∧ ¬ 99 < c4)) : vx_Met l yX8_send wsX8_send ({ frames := 7, cells := 1, slots := 6, locals := 104 }) (va_Pc [.ref x, .int k, .int a, .int b, .int c4] (pre dC dI E [] [] sz)) (va_Qi (fun (_ : Int32) (_ : Unit) => False) (fun _ _ => True) (va_A [] sz)) (vx_X (fun _ : Unit => True) (fun E9 _ _ => E9 = "java/lang/IllegalArgumentException") (va_A [] sz)) 1 6 (va_A [] sz) := by
  refine vx_ofW (cc := cX8_send) (maxL := 6) (ret := (some .int)) (by decide) rfl ?_
  intro p e s m args below meth c s₁ B hml htab hv
  obtain ⟨rfl, hsz, hP, hK, hD0, hE, hZ0⟩ := hv
  have hx := B.exec
  have hb := B.bytes
  have hr := B.returns
  have hts := atoms_spec (ws := wsX8_send) B.pre
  have hown : s.vm.findClass RX8 = some m.cls := findClass_of_methodNamed B.named
  have hlocks := B.notSynchronized
  subst hsz
  have hD := hD0.self (sz := s.heap.size)
  generalize hAe : va_A [] s.heap.size = A at hD hZ0 ⊢
  have hZ := hZ0
  have hA : ∀ q : Nat, s.heap.size ≤ q → A q := fun q h => by rw [← hAe]; exact Or.inr h
  have hS : va_S A s.heap s.heap [] := va_S.rf
  have hP : va_P (dC, dI) vwCl [] s.heap := hP
  have hl := lv_entry ([.ref x, .int k, .int a, .int b, .int c4]) (n := 6) (Nat.le_of_ble_eq_true rfl)
  rw [lg_entry_eq]
  generalize (lg_sl ([.ref x, .int k, .int a, .int b, .int c4]) ++ List.replicate (6 - (lg_sl ([.ref x, .int k, .int a, .int b, .int c4])).length) Slot.unset).toArray = ls at hl ⊢
  have hl : lv_has ls 6 [(0, .ref x), (1, .int k), (2, .int a), (3, .int b), (4, .int c4)] := hl
  refine lv_iload_n hx hb dX8_send_0 rfl (lv_at hl 1 rfl) ?_
  refine lv_bipush (v := 110) hx hb dX8_send_1 (by decide) ?_
  refine lv_icmp_eq (tgt := 12) hx hb dX8_send_3 (by decide) (fun c_1 => ?_) (fun c_1 => ?_)
  · refine lv_iconst (v := 1) hx hb dX8_send_12 (by decide) ?_
    refine lv_goto (tgt := 17) hx hb dX8_send_13 (by decide) ?_
    refine lv_istore (lv' := [(5, .int 1), (0, .ref x), (1, .int k), (2, .int a), (3, .int b), (4, .int c4)]) hx hb dX8_send_17 hl (by decide) rfl (fun ls hl => ?_)
    refine lv_iload hx hb dX8_send_19 (lv_at hl 0 rfl) ?_
    refine lv_if_ne (tgt := 46) hx hb dX8_send_21 (by decide) (fun _ => ?_) (fun c9 => absurd c9 (by decide))
    refine lv_iload_n hx hb dX8_send_46 rfl (lv_at hl 4 rfl) ?_
    refine lv_iconst (v := 1) hx hb dX8_send_47 (by decide) ?_
    refine lv_bipush (v := 99) hx hb dX8_send_48 (by decide) ?_
    have hPc := hP.sub (ws' := []) [] rfl
    have hDc := hD.sub (ws' := []) [] (by decide) rfl
    have hKc := hK.sub (tys' := []) [] rfl
    have hFc := va_free (wc := []) hD hS hA [] rfl
    refine va_callv (va_runS (As := [.int b, .int 1, .int 99]) (rest := []) ⟨hx, hb, hml, hown, hts⟩ (c_rqRg_y l dC dI E b 1 99 s.heap.size hla1 hua1) (va_cwS 3 hts gX8_send_X8_requireRange rfl rfl rfl (by decide +kernel) ⟨(Nat.le_of_ble_eq_true rfl), (Nat.le_of_ble_eq_true rfl)⟩) ⟨pre_blind, pre_call hPc hDc hKc hFc hE hZ hS⟩ rfl rfl hl.1 rfl (lv_room (Nat.le_of_ble_eq_true rfl)) dX8_send_50 ⟨(Nat.le_of_ble_eq_true rfl), (Nat.le_of_ble_eq_true rfl)⟩) hS (fun q _ h => hFc q h) hFc (fun u t H1 locs1 ht hvm hw hB hz1 hk1 hS => ?_)
    obtain ⟨hP, hD, hK⟩ := pst_join (wc := []) (wr := []) (w1 := []) (tr := []) (t1 := []) hP hD hK [] [] [] rfl rfl rfl (by decide) (by decide) hk1 hFc ht hvm hB
    generalize H1 = H at hP hS ⊢
    have hP : va_P (dC, dI) vwCl [] H := hP
    have hD : va_D A [] := hD
    have hK : va_K (dC, dI) vwCl [] s := hK
    refine W.widen (k := 0) (n := 0) (Nat.le_of_ble_eq_true rfl) (Nat.le_of_ble_eq_true rfl) ?_
    refine lv_iload hx hb dX8_send_53 (lv_at hl 5 rfl) ?_
    refine lv_iconst (v := 0) hx hb dX8_send_55 (by decide) ?_
    refine lv_bipush (v := 99) hx hb dX8_send_56 (by decide) ?_
    have hPc := hP.sub (ws' := []) [] rfl
    have hDc := hD.sub (ws' := []) [] (by decide) rfl
    have hKc := hK.sub (tys' := []) [] rfl
    have hFc := va_free (wc := []) hD hS hA [] rfl
    refine vx_callv (vx_runS (As := [.int c4, .int 0, .int 99]) (rest := []) ⟨hx, hb, hml, hown, hts⟩ (c_rqRg_n l hst dC dI E c4 0 99 H.size h) (va_cwS 3 hts gX8_send_X8_requireRange rfl rfl rfl (by decide +kernel) ⟨(Nat.le_of_ble_eq_true rfl), (Nat.le_of_ble_eq_true rfl)⟩) ⟨pre_blind, pre_call hPc hDc hKc hFc hE hZ hS⟩ rfl rfl hl.1 rfl (lv_room (Nat.le_of_ble_eq_true rfl)) dX8_send_58 ⟨(Nat.le_of_ble_eq_true rfl), (Nat.le_of_ble_eq_true rfl)⟩) hS (fun q _ h => hFc q h) hFc (fun q _ h => hFc q h) (fun E9 ce q9 u t H1 locs1 ht hvm hw hB hz1 hk1 hS hc9 hv9 hf9 => ?_) (fun u t H1 locs1 ht hvm hw hB hz1 hk1 hS => hw.elim)
    obtain rfl := hB
    exact vx_out (fun x h => (htab x h).elim) hlocks hc9 hv9 hf9 (fun t2 ht2 _ => ⟨(), trivial, rfl, hS.F ht2⟩) hS.2.2 (Nat.le_of_ble_eq_true rfl) (Nat.le_of_ble_eq_true rfl)
  · refine lv_iload_n hx hb dX8_send_6 rfl (lv_at hl 1 rfl) ?_
    refine lv_bipush (v := 102) hx hb dX8_send_7 (by decide) ?_
    refine lv_icmp_ne (tgt := 16) hx hb dX8_send_9 (by decide) (fun c_4 => ?_) (fun c_4 => ?_)
    · refine lv_iconst (v := 0) hx hb dX8_send_16 (by decide) ?_
      refine lv_istore (lv' := [(5, .int 0), (0, .ref x), (1, .int k), (2, .int a), (3, .int b), (4, .int c4)]) hx hb dX8_send_17 hl (by decide) rfl (fun ls hl => ?_)
      refine lv_iload hx hb dX8_send_19 (lv_at hl 0 rfl) ?_
      refine lv_if_ne (tgt := 46) hx hb dX8_send_21 (by decide) (fun c9 => absurd (by decide) c9) (fun _ => ?_)
      refine lv_iload_n hx hb dX8_send_24 rfl (lv_at hl 2 rfl) ?_
      refine lv_bipush (v := 111) hx hb dX8_send_25 (by decide) ?_
      refine lv_icmp_eq (tgt := 46) hx hb dX8_send_27 (by decide) (fun c_6 => ?_) (fun c_6 => ?_)
      · refine lv_iload_n hx hb dX8_send_46 rfl (lv_at hl 4 rfl) ?_
        refine lv_iconst (v := 1) hx hb dX8_send_47 (by decide) ?_
        refine lv_bipush (v := 99) hx hb dX8_send_48 (by decide) ?_
        have hPc := hP.sub (ws' := []) [] rfl
        have hDc := hD.sub (ws' := []) [] (by decide) rfl
        have hKc := hK.sub (tys' := []) [] rfl
        have hFc := va_free (wc := []) hD hS hA [] rfl
        refine va_callv (va_runS (As := [.int b, .int 1, .int 99]) (rest := []) ⟨hx, hb, hml, hown, hts⟩ (c_rqRg_y l dC dI E b 1 99 s.heap.size hla1 hua1) (va_cwS 3 hts gX8_send_X8_requireRange rfl rfl rfl (by decide +kernel) ⟨(Nat.le_of_ble_eq_true rfl), (Nat.le_of_ble_eq_true rfl)⟩) ⟨pre_blind, pre_call hPc hDc hKc hFc hE hZ hS⟩ rfl rfl hl.1 rfl (lv_room (Nat.le_of_ble_eq_true rfl)) dX8_send_50 ⟨(Nat.le_of_ble_eq_true rfl), (Nat.le_of_ble_eq_true rfl)⟩) hS (fun q _ h => hFc q h) hFc (fun u t H1 locs1 ht hvm hw hB hz1 hk1 hS => ?_)
        obtain ⟨hP, hD, hK⟩ := pst_join (wc := []) (wr := []) (w1 := []) (tr := []) (t1 := []) hP hD hK [] [] [] rfl rfl rfl (by decide) (by decide) hk1 hFc ht hvm hB
        generalize H1 = H at hP hS ⊢
        have hP : va_P (dC, dI) vwCl [] H := hP
        have hD : va_D A [] := hD
        have hK : va_K (dC, dI) vwCl [] s := hK
        refine W.widen (k := 0) (n := 0) (Nat.le_of_ble_eq_true rfl) (Nat.le_of_ble_eq_true rfl) ?_
        refine lv_iload hx hb dX8_send_53 (lv_at hl 5 rfl) ?_
        refine lv_iconst (v := 0) hx hb dX8_send_55 (by decide) ?_
        refine lv_bipush (v := 99) hx hb dX8_send_56 (by decide) ?_
        have hPc := hP.sub (ws' := []) [] rfl
        have hDc := hD.sub (ws' := []) [] (by decide) rfl
        have hKc := hK.sub (tys' := []) [] rfl
        have hFc := va_free (wc := []) hD hS hA [] rfl
        refine vx_callv (vx_runS (As := [.int c4, .int 0, .int 99]) (rest := []) ⟨hx, hb, hml, hown, hts⟩ (c_rqRg_n l hst dC dI E c4 0 99 H.size h) (va_cwS 3 hts gX8_send_X8_requireRange rfl rfl rfl (by decide +kernel) ⟨(Nat.le_of_ble_eq_true rfl), (Nat.le_of_ble_eq_true rfl)⟩) ⟨pre_blind, pre_call hPc hDc hKc hFc hE hZ hS⟩ rfl rfl hl.1 rfl (lv_room (Nat.le_of_ble_eq_true rfl)) dX8_send_58 ⟨(Nat.le_of_ble_eq_true rfl), (Nat.le_of_ble_eq_true rfl)⟩) hS (fun q _ h => hFc q h) hFc (fun q _ h => hFc q h) (fun E9 ce q9 u t H1 locs1 ht hvm hw hB hz1 hk1 hS hc9 hv9 hf9 => ?_) (fun u t H1 locs1 ht hvm hw hB hz1 hk1 hS => hw.elim)
        obtain rfl := hB
        exact vx_out (fun x h => (htab x h).elim) hlocks hc9 hv9 hf9 (fun t2 ht2 _ => ⟨(), trivial, rfl, hS.F ht2⟩) hS.2.2 (Nat.le_of_ble_eq_true rfl) (Nat.le_of_ble_eq_true rfl)
      · refine lv_iload_n hx hb dX8_send_30 rfl (lv_at hl 2 rfl) ?_
        refine lv_bipush (v := 104) hx hb dX8_send_31 (by decide) ?_
        refine lv_icmp_eq (tgt := 46) hx hb dX8_send_33 (by decide) (fun c_8 => ?_) (fun c9 => (hk.elim c_1 (fun h => h.elim c_4 (fun h => h.elim c_6 c9))).elim)
        refine lv_iload_n hx hb dX8_send_46 rfl (lv_at hl 4 rfl) ?_
        refine lv_iconst (v := 1) hx hb dX8_send_47 (by decide) ?_
        refine lv_bipush (v := 99) hx hb dX8_send_48 (by decide) ?_
        have hPc := hP.sub (ws' := []) [] rfl
        have hDc := hD.sub (ws' := []) [] (by decide) rfl
        have hKc := hK.sub (tys' := []) [] rfl
        have hFc := va_free (wc := []) hD hS hA [] rfl
        refine va_callv (va_runS (As := [.int b, .int 1, .int 99]) (rest := []) ⟨hx, hb, hml, hown, hts⟩ (c_rqRg_y l dC dI E b 1 99 s.heap.size hla1 hua1) (va_cwS 3 hts gX8_send_X8_requireRange rfl rfl rfl (by decide +kernel) ⟨(Nat.le_of_ble_eq_true rfl), (Nat.le_of_ble_eq_true rfl)⟩) ⟨pre_blind, pre_call hPc hDc hKc hFc hE hZ hS⟩ rfl rfl hl.1 rfl (lv_room (Nat.le_of_ble_eq_true rfl)) dX8_send_50 ⟨(Nat.le_of_ble_eq_true rfl), (Nat.le_of_ble_eq_true rfl)⟩) hS (fun q _ h => hFc q h) hFc (fun u t H1 locs1 ht hvm hw hB hz1 hk1 hS => ?_)
        obtain ⟨hP, hD, hK⟩ := pst_join (wc := []) (wr := []) (w1 := []) (tr := []) (t1 := []) hP hD hK [] [] [] rfl rfl rfl (by decide) (by decide) hk1 hFc ht hvm hB
        generalize H1 = H at hP hS ⊢
        have hP : va_P (dC, dI) vwCl [] H := hP
        have hD : va_D A [] := hD
        have hK : va_K (dC, dI) vwCl [] s := hK
        refine W.widen (k := 0) (n := 0) (Nat.le_of_ble_eq_true rfl) (Nat.le_of_ble_eq_true rfl) ?_
        refine lv_iload hx hb dX8_send_53 (lv_at hl 5 rfl) ?_
        refine lv_iconst (v := 0) hx hb dX8_send_55 (by decide) ?_
        refine lv_bipush (v := 99) hx hb dX8_send_56 (by decide) ?_
        have hPc := hP.sub (ws' := []) [] rfl
        have hDc := hD.sub (ws' := []) [] (by decide) rfl
        have hKc := hK.sub (tys' := []) [] rfl
        have hFc := va_free (wc := []) hD hS hA [] rfl
        refine vx_callv (vx_runS (As := [.int c4, .int 0, .int 99]) (rest := []) ⟨hx, hb, hml, hown, hts⟩ (c_rqRg_n l hst dC dI E c4 0 99 H.size h) (va_cwS 3 hts gX8_send_X8_requireRange rfl rfl rfl (by decide +kernel) ⟨(Nat.le_of_ble_eq_true rfl), (Nat.le_of_ble_eq_true rfl)⟩) ⟨pre_blind, pre_call hPc hDc hKc hFc hE hZ hS⟩ rfl rfl hl.1 rfl (lv_room (Nat.le_of_ble_eq_true rfl)) dX8_send_58 ⟨(Nat.le_of_ble_eq_true rfl), (Nat.le_of_ble_eq_true rfl)⟩) hS (fun q _ h => hFc q h) hFc (fun q _ h => hFc q h) (fun E9 ce q9 u t H1 locs1 ht hvm hw hB hz1 hk1 hS hc9 hv9 hf9 => ?_) (fun u t H1 locs1 ht hvm hw hB hz1 hk1 hS => hw.elim)
        obtain rfl := hB
        exact vx_out (fun x h => (htab x h).elim) hlocks hc9 hv9 hf9 (fun t2 ht2 _ => ⟨(), trivial, rfl, hS.F ht2⟩) hS.2.2 (Nat.le_of_ble_eq_true rfl) (Nat.le_of_ble_eq_true rfl)
    · refine lv_iconst (v := 1) hx hb dX8_send_12 (by decide) ?_
      refine lv_goto (tgt := 17) hx hb dX8_send_13 (by decide) ?_
      refine lv_istore (lv' := [(5, .int 1), (0, .ref x), (1, .int k), (2, .int a), (3, .int b), (4, .int c4)]) hx hb dX8_send_17 hl (by decide) rfl (fun ls hl => ?_)
      refine lv_iload hx hb dX8_send_19 (lv_at hl 0 rfl) ?_
      refine lv_if_ne (tgt := 46) hx hb dX8_send_21 (by decide) (fun _ => ?_) (fun c9 => absurd c9 (by decide))
      refine lv_iload_n hx hb dX8_send_46 rfl (lv_at hl 4 rfl) ?_
      refine lv_iconst (v := 1) hx hb dX8_send_47 (by decide) ?_
      refine lv_bipush (v := 99) hx hb dX8_send_48 (by decide) ?_
      have hPc := hP.sub (ws' := []) [] rfl
      have hDc := hD.sub (ws' := []) [] (by decide) rfl
      have hKc := hK.sub (tys' := []) [] rfl
      have hFc := va_free (wc := []) hD hS hA [] rfl
      refine va_callv (va_runS (As := [.int b, .int 1, .int 99]) (rest := []) ⟨hx, hb, hml, hown, hts⟩ (c_rqRg_y l dC dI E b 1 99 s.heap.size hla1 hua1) (va_cwS 3 hts gX8_send_X8_requireRange rfl rfl rfl (by decide +kernel) ⟨(Nat.le_of_ble_eq_true rfl), (Nat.le_of_ble_eq_true rfl)⟩) ⟨pre_blind, pre_call hPc hDc hKc hFc hE hZ hS⟩ rfl rfl hl.1 rfl (lv_room (Nat.le_of_ble_eq_true rfl)) dX8_send_50 ⟨(Nat.le_of_ble_eq_true rfl), (Nat.le_of_ble_eq_true rfl)⟩) hS (fun q _ h => hFc q h) hFc (fun u t H1 locs1 ht hvm hw hB hz1 hk1 hS => ?_)
      obtain ⟨hP, hD, hK⟩ := pst_join (wc := []) (wr := []) (w1 := []) (tr := []) (t1 := []) hP hD hK [] [] [] rfl rfl rfl (by decide) (by decide) hk1 hFc ht hvm hB
      generalize H1 = H at hP hS ⊢
      have hP : va_P (dC, dI) vwCl [] H := hP
      have hD : va_D A [] := hD
      have hK : va_K (dC, dI) vwCl [] s := hK
      refine W.widen (k := 0) (n := 0) (Nat.le_of_ble_eq_true rfl) (Nat.le_of_ble_eq_true rfl) ?_
      refine lv_iload hx hb dX8_send_53 (lv_at hl 5 rfl) ?_
      refine lv_iconst (v := 0) hx hb dX8_send_55 (by decide) ?_
      refine lv_bipush (v := 99) hx hb dX8_send_56 (by decide) ?_
      have hPc := hP.sub (ws' := []) [] rfl
      have hDc := hD.sub (ws' := []) [] (by decide) rfl
      have hKc := hK.sub (tys' := []) [] rfl
      have hFc := va_free (wc := []) hD hS hA [] rfl
      refine vx_callv (vx_runS (As := [.int c4, .int 0, .int 99]) (rest := []) ⟨hx, hb, hml, hown, hts⟩ (c_rqRg_n l hst dC dI E c4 0 99 H.size h) (va_cwS 3 hts gX8_send_X8_requireRange rfl rfl rfl (by decide +kernel) ⟨(Nat.le_of_ble_eq_true rfl), (Nat.le_of_ble_eq_true rfl)⟩) ⟨pre_blind, pre_call hPc hDc hKc hFc hE hZ hS⟩ rfl rfl hl.1 rfl (lv_room (Nat.le_of_ble_eq_true rfl)) dX8_send_58 ⟨(Nat.le_of_ble_eq_true rfl), (Nat.le_of_ble_eq_true rfl)⟩) hS (fun q _ h => hFc q h) hFc (fun q _ h => hFc q h) (fun E9 ce q9 u t H1 locs1 ht hvm hw hB hz1 hk1 hS hc9 hv9 hf9 => ?_) (fun u t H1 locs1 ht hvm hw hB hz1 hk1 hS => hw.elim)
      obtain rfl := hB
      exact vx_out (fun x h => (htab x h).elim) hlocks hc9 hv9 hf9 (fun t2 ht2 _ => ⟨(), trivial, rfl, hS.F ht2⟩) hS.2.2 (Nat.le_of_ble_eq_true rfl) (Nat.le_of_ble_eq_true rfl)

set_option maxHeartbeats 4000000 in
set_option maxRecDepth 100000 in
theorem c_cx_approach_n1 (l : Launch) (hst : l.stackTraces = false) (dC : Nat → ClassId) (dI : Nat → Nat → Nat) (E : Nat → Nat) (x : Nat) (a : Int32) (b : Int32) (sz : Nat) (h : ¬ (¬ a < 1 ∧ ¬ 500 < a)) : vx_Met l yX8_approach wsX8_approach ({ frames := 7, cells := 1, slots := 6, locals := 104 }) (va_Pc [.ref x, .int a, .int b] (pre dC dI E [] [] sz)) (va_Qi (fun (_ : Int32) (_ : Unit) => False) (fun _ _ => True) (va_A [] sz)) (vx_X (fun _ : Unit => True) (fun E9 _ _ => E9 = "java/lang/IllegalArgumentException") (va_A [] sz)) 1 6 (va_A [] sz) := by
  refine vx_ofW (cc := cX8_approach) (maxL := 3) (ret := (some .int)) (by decide) rfl ?_
  intro p e s m args below meth c s₁ B hml htab hv
  obtain ⟨rfl, hsz, hP, hK, hD0, hE, hZ0⟩ := hv
  have hx := B.exec
  have hb := B.bytes
  have hr := B.returns
  have hts := atoms_spec (ws := wsX8_approach) B.pre
  have hown : s.vm.findClass RX8 = some m.cls := findClass_of_methodNamed B.named
  have hlocks := B.notSynchronized
  subst hsz
  have hD := hD0.self (sz := s.heap.size)
  generalize hAe : va_A [] s.heap.size = A at hD hZ0 ⊢
  have hZ := hZ0
  have hA : ∀ q : Nat, s.heap.size ≤ q → A q := fun q h => by rw [← hAe]; exact Or.inr h
  have hS : va_S A s.heap s.heap [] := va_S.rf
  have hP : va_P (dC, dI) vwCl [] s.heap := hP
  have hl := lv_entry ([.ref x, .int a, .int b]) (n := 3) (Nat.le_of_ble_eq_true rfl)
  rw [lg_entry_eq]
  generalize (lg_sl ([.ref x, .int a, .int b]) ++ List.replicate (3 - (lg_sl ([.ref x, .int a, .int b])).length) Slot.unset).toArray = ls at hl ⊢
  have hl : lv_has ls 3 [(0, .ref x), (1, .int a), (2, .int b)] := hl
  refine lv_iload_n hx hb dX8_approach_0 rfl (lv_at hl 1 rfl) ?_
  refine lv_iconst (v := 1) hx hb dX8_approach_1 (by decide) ?_
  refine lv_sipush (v := 500) hx hb dX8_approach_2 (by decide) ?_
  have hPc := hP.sub (ws' := []) [] rfl
  have hDc := hD.sub (ws' := []) [] (by decide) rfl
  have hKc := hK.sub (tys' := []) [] rfl
  have hFc := va_free (wc := []) hD hS hA [] rfl
  refine vx_callv (vx_runS (As := [.int a, .int 1, .int 500]) (rest := []) ⟨hx, hb, hml, hown, hts⟩ (c_rqRg_n l hst dC dI E a 1 500 s.heap.size h) (va_cwS 3 hts gX8_approach_X8_requireRange rfl rfl rfl (by decide +kernel) ⟨(Nat.le_of_ble_eq_true rfl), (Nat.le_of_ble_eq_true rfl)⟩) ⟨pre_blind, pre_call hPc hDc hKc hFc hE hZ hS⟩ rfl rfl hl.1 rfl (lv_room (Nat.le_of_ble_eq_true rfl)) dX8_approach_5 ⟨(Nat.le_of_ble_eq_true rfl), (Nat.le_of_ble_eq_true rfl)⟩) hS (fun q _ h => hFc q h) hFc (fun q _ h => hFc q h) (fun E9 ce q9 u t H1 locs1 ht hvm hw hB hz1 hk1 hS hc9 hv9 hf9 => ?_) (fun u t H1 locs1 ht hvm hw hB hz1 hk1 hS => hw.elim)
  obtain rfl := hB
  exact vx_out (fun x h => (htab x h).elim) hlocks hc9 hv9 hf9 (fun t2 ht2 _ => ⟨(), trivial, rfl, hS.F ht2⟩) hS.2.2 (Nat.le_of_ble_eq_true rfl) (Nat.le_of_ble_eq_true rfl)

set_option maxHeartbeats 4000000 in
set_option maxRecDepth 100000 in
theorem c_cx_approach_n2 (l : Launch) (hst : l.stackTraces = false) (dC : Nat → ClassId) (dI : Nat → Nat → Nat) (E : Nat → Nat) (x : Nat) (a : Int32) (b : Int32) (sz : Nat) (hla1 : ¬ a < 1) (hua1 : ¬ 500 < a) (h : ¬ (¬ b < 0 ∧ ¬ 99 < b)) : vx_Met l yX8_approach wsX8_approach ({ frames := 7, cells := 1, slots := 6, locals := 104 }) (va_Pc [.ref x, .int a, .int b] (pre dC dI E [] [] sz)) (va_Qi (fun (_ : Int32) (_ : Unit) => False) (fun _ _ => True) (va_A [] sz)) (vx_X (fun _ : Unit => True) (fun E9 _ _ => E9 = "java/lang/IllegalArgumentException") (va_A [] sz)) 1 6 (va_A [] sz) := by
  refine vx_ofW (cc := cX8_approach) (maxL := 3) (ret := (some .int)) (by decide) rfl ?_
  intro p e s m args below meth c s₁ B hml htab hv
  obtain ⟨rfl, hsz, hP, hK, hD0, hE, hZ0⟩ := hv
  have hx := B.exec
  have hb := B.bytes
  have hr := B.returns
  have hts := atoms_spec (ws := wsX8_approach) B.pre
  have hown : s.vm.findClass RX8 = some m.cls := findClass_of_methodNamed B.named
  have hlocks := B.notSynchronized
  subst hsz
  have hD := hD0.self (sz := s.heap.size)
  generalize hAe : va_A [] s.heap.size = A at hD hZ0 ⊢
  have hZ := hZ0
  have hA : ∀ q : Nat, s.heap.size ≤ q → A q := fun q h => by rw [← hAe]; exact Or.inr h
  have hS : va_S A s.heap s.heap [] := va_S.rf
  have hP : va_P (dC, dI) vwCl [] s.heap := hP
  have hl := lv_entry ([.ref x, .int a, .int b]) (n := 3) (Nat.le_of_ble_eq_true rfl)
  rw [lg_entry_eq]
  generalize (lg_sl ([.ref x, .int a, .int b]) ++ List.replicate (3 - (lg_sl ([.ref x, .int a, .int b])).length) Slot.unset).toArray = ls at hl ⊢
  have hl : lv_has ls 3 [(0, .ref x), (1, .int a), (2, .int b)] := hl
  refine lv_iload_n hx hb dX8_approach_0 rfl (lv_at hl 1 rfl) ?_
  refine lv_iconst (v := 1) hx hb dX8_approach_1 (by decide) ?_
  refine lv_sipush (v := 500) hx hb dX8_approach_2 (by decide) ?_
  have hPc := hP.sub (ws' := []) [] rfl
  have hDc := hD.sub (ws' := []) [] (by decide) rfl
  have hKc := hK.sub (tys' := []) [] rfl
  have hFc := va_free (wc := []) hD hS hA [] rfl
  refine va_callv (va_runS (As := [.int a, .int 1, .int 500]) (rest := []) ⟨hx, hb, hml, hown, hts⟩ (c_rqRg_y l dC dI E a 1 500 s.heap.size hla1 hua1) (va_cwS 3 hts gX8_approach_X8_requireRange rfl rfl rfl (by decide +kernel) ⟨(Nat.le_of_ble_eq_true rfl), (Nat.le_of_ble_eq_true rfl)⟩) ⟨pre_blind, pre_call hPc hDc hKc hFc hE hZ hS⟩ rfl rfl hl.1 rfl (lv_room (Nat.le_of_ble_eq_true rfl)) dX8_approach_5 ⟨(Nat.le_of_ble_eq_true rfl), (Nat.le_of_ble_eq_true rfl)⟩) hS (fun q _ h => hFc q h) hFc (fun u t H1 locs1 ht hvm hw hB hz1 hk1 hS => ?_)
  obtain ⟨hP, hD, hK⟩ := pst_join (wc := []) (wr := []) (w1 := []) (tr := []) (t1 := []) hP hD hK [] [] [] rfl rfl rfl (by decide) (by decide) hk1 hFc ht hvm hB
  generalize H1 = H at hP hS ⊢
  have hP : va_P (dC, dI) vwCl [] H := hP
  have hD : va_D A [] := hD
  have hK : va_K (dC, dI) vwCl [] s := hK
  refine W.widen (k := 0) (n := 0) (Nat.le_of_ble_eq_true rfl) (Nat.le_of_ble_eq_true rfl) ?_
  refine lv_iload_n hx hb dX8_approach_8 rfl (lv_at hl 2 rfl) ?_
  refine lv_iconst (v := 0) hx hb dX8_approach_9 (by decide) ?_
  refine lv_bipush (v := 99) hx hb dX8_approach_10 (by decide) ?_
  have hPc := hP.sub (ws' := []) [] rfl
  have hDc := hD.sub (ws' := []) [] (by decide) rfl
  have hKc := hK.sub (tys' := []) [] rfl
  have hFc := va_free (wc := []) hD hS hA [] rfl
  refine vx_callv (vx_runS (As := [.int b, .int 0, .int 99]) (rest := []) ⟨hx, hb, hml, hown, hts⟩ (c_rqRg_n l hst dC dI E b 0 99 H.size h) (va_cwS 3 hts gX8_approach_X8_requireRange rfl rfl rfl (by decide +kernel) ⟨(Nat.le_of_ble_eq_true rfl), (Nat.le_of_ble_eq_true rfl)⟩) ⟨pre_blind, pre_call hPc hDc hKc hFc hE hZ hS⟩ rfl rfl hl.1 rfl (lv_room (Nat.le_of_ble_eq_true rfl)) dX8_approach_12 ⟨(Nat.le_of_ble_eq_true rfl), (Nat.le_of_ble_eq_true rfl)⟩) hS (fun q _ h => hFc q h) hFc (fun q _ h => hFc q h) (fun E9 ce q9 u t H1 locs1 ht hvm hw hB hz1 hk1 hS hc9 hv9 hf9 => ?_) (fun u t H1 locs1 ht hvm hw hB hz1 hk1 hS => hw.elim)
  obtain rfl := hB
  exact vx_out (fun x h => (htab x h).elim) hlocks hc9 hv9 hf9 (fun t2 ht2 _ => ⟨(), trivial, rfl, hS.F ht2⟩) hS.2.2 (Nat.le_of_ble_eq_true rfl) (Nat.le_of_ble_eq_true rfl)

set_option maxHeartbeats 4000000 in
set_option maxRecDepth 100000 in
theorem c_shipsFull (l : Launch) (dC : Nat → ClassId) (dI : Nat → Nat → Nat) (E : Nat → Nat) (sh : Nat) (p0 : Nat) (p1 : Nat) (p2 : Nat) (p3 : Nat) (p4 : Nat) (sz : Nat) : Met l yX6_isFull wsX6_isFull ({ frames := 0, cells := 0, slots := 0, locals := 0 }) (va_Pc [.ref sh] (pre dC dI E [(sh, .inr (12, [.ref p0, .ref p1, .ref p2, .ref p3, .ref p4, .int 0]))] [] sz)) (va_Qi (fun (r : Int32) (_ : Unit) => r = 0) (fun _ t => pst dC dI (va_A [(sh, .inr (12, [.ref p0, .ref p1, .ref p2, .ref p3, .ref p4, .int 0]))] sz) [(sh, .inr (12, [.ref p0, .ref p1, .ref p2, .ref p3, .ref p4, .int 0]))] [] t) (va_A [(sh, .inr (12, [.ref p0, .ref p1, .ref p2, .ref p3, .ref p4, .int 0]))] sz)) 0 0 (va_A [(sh, .inr (12, [.ref p0, .ref p1, .ref p2, .ref p3, .ref p4, .int 0]))] sz) := by
  refine Met.ofW (cc := cX6_isFull) (maxL := 1) (ret := (some .boolean)) (by decide) rfl ?_
  intro p e s m args below meth c s₁ B hml hv
  obtain ⟨rfl, hsz, hP, hK, hD0, hE, hZ0⟩ := hv
  have hx := B.exec
  have hb := B.bytes
  have hr := B.returns
  have hts := atoms_spec (ws := wsX6_isFull) B.pre
  have hown : s.vm.findClass RX6 = some m.cls := findClass_of_methodNamed B.named
  have hlocks := B.notSynchronized
  subst hsz
  have hD := hD0.self (sz := s.heap.size)
  generalize hAe : va_A [(sh, .inr (12, [.ref p0, .ref p1, .ref p2, .ref p3, .ref p4, .int 0]))] s.heap.size = A at hD hZ0 ⊢
  have hZ := hZ0
  have hA : ∀ q : Nat, s.heap.size ≤ q → A q := fun q h => by rw [← hAe]; exact Or.inr h
  have hS : va_S A s.heap s.heap [] := va_S.rf
  have hP : va_P (dC, dI) vwCl [(sh, .inr (12, [.ref p0, .ref p1, .ref p2, .ref p3, .ref p4, .int 0]))] s.heap := hP
  have hl := lv_entry ([.ref sh]) (n := 1) (Nat.le_of_ble_eq_true rfl)
  rw [lg_entry_eq]
  generalize (lg_sl ([.ref sh]) ++ List.replicate (1 - (lg_sl ([.ref sh])).length) Slot.unset).toArray = ls at hl ⊢
  have hl : lv_has ls 1 [(0, .ref sh)] := hl
  refine lv_aload_n hx hb dX6_isFull_0 rfl (lv_at hl 0 rfl) ?_
  refine va_get (D := (dC, dI)) (ci := 12) (v := .int 0) (C := RX6) (T := TX6) (N := 6) hx hb hts (by decide +kernel) hown hK hP 0 rfl rfl 5 (by decide) (hts (.fieldLink RX6 28 "Orbitdock$Ships" "count" "I") (by decide +kernel)) (fun _ h9 => h9) rfl dX6_isFull_1 ?_
  refine lv_iconst (v := 4) hx hb dX6_isFull_4 (by decide) ?_
  refine lv_icmp_lt (tgt := 12) hx hb dX6_isFull_5 (by decide) (fun _ => ?_) (fun c9 => absurd (by decide) c9)
  refine lv_iconst (v := 0) hx hb dX6_isFull_12 (by decide) ?_
  have hP9 := hP.sub (ws' := [(sh, .inr (12, [.ref p0, .ref p1, .ref p2, .ref p3, .ref p4, .int 0]))]) [0] rfl
  have hD9 := hD.sub (ws' := [(sh, .inr (12, [.ref p0, .ref p1, .ref p2, .ref p3, .ref p4, .int 0]))]) [0] (by decide) rfl
  have hK9 := hK.sub (tys' := []) [] rfl
  refine W.widen (k := 0) (n := 0) (Nat.le_of_ble_eq_true rfl) (Nat.le_of_ble_eq_true rfl) ?_
  exact W.zret (v := 0) hx hb hr rfl (fun t ht hW => ⟨⟨0, (), rfl, rfl, pst_of hP9 hD9 hK9 ht hW⟩, hS.F ht⟩) hS.2.2 dX6_isFull_13

set_option maxHeartbeats 4000000 in
set_option maxRecDepth 100000 in
theorem c_shipsAdd (l : Launch) (dC : Nat → ClassId) (dI : Nat → Nat → Nat) (E : Nat → Nat) (sh : Nat) (p0 : Nat) (p1 : Nat) (p2 : Nat) (p3 : Nat) (p4 : Nat) (cS0 : ClassId) (cS2 : ClassId) (cS3 : ClassId) (a : Int32) (b : Int32) (sz : Nat) : Met l yX6_add wsX6_add ({ frames := 0, cells := 0, slots := 0, locals := 0 }) (va_Pc [.ref sh, .int a, .int b] (pre dC dI E [(sh, .inr (12, [.ref p0, .ref p1, .ref p2, .ref p3, .ref p4, .int 0])), (p0, .inl (cS0, 4, .inl (fun _ => 0))), (p2, .inl (cS2, 4, .inl (fun _ => 0))), (p3, .inl (cS3, 4, .inl (fun _ => 0)))] [(cS0, .int), (cS2, .int), (cS3, .int)] sz)) (va_Qi (fun (r : Int32) (_ : Unit) => r = 0) (fun _ t => True) (va_A [(sh, .inr (12, [.ref p0, .ref p1, .ref p2, .ref p3, .ref p4, .int 0])), (p0, .inl (cS0, 4, .inl (fun _ => 0))), (p2, .inl (cS2, 4, .inl (fun _ => 0))), (p3, .inl (cS3, 4, .inl (fun _ => 0)))] sz)) 0 0 (va_A [(sh, .inr (12, [.ref p0, .ref p1, .ref p2, .ref p3, .ref p4, .int 0])), (p0, .inl (cS0, 4, .inl (fun _ => 0))), (p2, .inl (cS2, 4, .inl (fun _ => 0))), (p3, .inl (cS3, 4, .inl (fun _ => 0)))] sz) := by
  refine Met.ofW (cc := cX6_add) (maxL := 3) (ret := (some .int)) (by decide) rfl ?_
  intro p e s m args below meth c s₁ B hml hv
  obtain ⟨rfl, hsz, hP, hK, hD0, hE, hZ0⟩ := hv
  have hx := B.exec
  have hb := B.bytes
  have hr := B.returns
  have hts := atoms_spec (ws := wsX6_add) B.pre
  have hown : s.vm.findClass RX6 = some m.cls := findClass_of_methodNamed B.named
  have hlocks := B.notSynchronized
  subst hsz
  have hD := hD0.self (sz := s.heap.size)
  generalize hAe : va_A [(sh, .inr (12, [.ref p0, .ref p1, .ref p2, .ref p3, .ref p4, .int 0])), (p0, .inl (cS0, 4, .inl (fun _ => 0))), (p2, .inl (cS2, 4, .inl (fun _ => 0))), (p3, .inl (cS3, 4, .inl (fun _ => 0)))] s.heap.size = A at hD hZ0 ⊢
  have hZ := hZ0
  have hA : ∀ q : Nat, s.heap.size ≤ q → A q := fun q h => by rw [← hAe]; exact Or.inr h
  have hS : va_S A s.heap s.heap [] := va_S.rf
  have hP : va_P (dC, dI) vwCl [(sh, .inr (12, [.ref p0, .ref p1, .ref p2, .ref p3, .ref p4, .int 0])), (p0, .inl (cS0, 4, .inl (fun _ => 0))), (p2, .inl (cS2, 4, .inl (fun _ => 0))), (p3, .inl (cS3, 4, .inl (fun _ => 0)))] s.heap := hP
  have hl := lv_entry ([.ref sh, .int a, .int b]) (n := 3) (Nat.le_of_ble_eq_true rfl)
  rw [lg_entry_eq]
  generalize (lg_sl ([.ref sh, .int a, .int b]) ++ List.replicate (3 - (lg_sl ([.ref sh, .int a, .int b])).length) Slot.unset).toArray = ls at hl ⊢
  have hl : lv_has ls 3 [(0, .ref sh), (1, .int a), (2, .int b)] := hl
  refine lv_aload_n hx hb dX6_add_0 rfl (lv_at hl 0 rfl) ?_
  refine va_get (D := (dC, dI)) (ci := 12) (v := .ref p0) (C := RX6) (T := TX6) (N := 6) hx hb hts (by decide +kernel) hown hK hP 0 rfl rfl 0 (by decide) (hts (.fieldLink RX6 9 "Orbitdock$Ships" "distance" "[I") (by decide +kernel)) (fun _ h9 => h9) rfl dX6_add_1 ?_
  refine lv_aload_n hx hb dX6_add_4 rfl (lv_at hl 0 rfl) ?_
  refine va_get (D := (dC, dI)) (ci := 12) (v := .int 0) (C := RX6) (T := TX6) (N := 6) hx hb hts (by decide +kernel) hown hK hP 0 rfl rfl 5 (by decide) (hts (.fieldLink RX6 28 "Orbitdock$Ships" "count" "I") (by decide +kernel)) (fun _ h9 => h9) rfl dX6_add_5 ?_
  refine lv_iload_n hx hb dX6_add_8 rfl (lv_at hl 1 rfl) ?_
  refine va_iast hx hb hK hP hD hS 1 0 rfl rfl (by unfold vp_in; decide) dX6_add_9 (fun H locs hP hD hS => ?_)
  have hP : va_P (dC, dI) vwCl [(sh, .inr (12, [.ref p0, .ref p1, .ref p2, .ref p3, .ref p4, .int 0])), (p0, .inl (cS0, 4, .inl (upd (fun _ => 0) (0 : Int32).toNatClampNeg a))), (p2, .inl (cS2, 4, .inl (fun _ => 0))), (p3, .inl (cS3, 4, .inl (fun _ => 0)))] H := hP
  have hD : va_D A [(sh, .inr (12, [.ref p0, .ref p1, .ref p2, .ref p3, .ref p4, .int 0])), (p0, .inl (cS0, 4, .inl (upd (fun _ => 0) (0 : Int32).toNatClampNeg a))), (p2, .inl (cS2, 4, .inl (fun _ => 0))), (p3, .inl (cS3, 4, .inl (fun _ => 0)))] := hD
  obtain ⟨f_1, ef_1⟩ : ∃ y : Nat → Int32, y = upd (fun _ => 0) (0 : Int32).toNatClampNeg a := ⟨_, rfl⟩
  rw [← ef_1] at hP hD
  have hP : va_P (dC, dI) vwCl [(sh, .inr (12, [.ref p0, .ref p1, .ref p2, .ref p3, .ref p4, .int 0])), (p0, .inl (cS0, 4, .inl f_1)), (p2, .inl (cS2, 4, .inl (fun _ => 0))), (p3, .inl (cS3, 4, .inl (fun _ => 0)))] H := hP
  have hD : va_D A [(sh, .inr (12, [.ref p0, .ref p1, .ref p2, .ref p3, .ref p4, .int 0])), (p0, .inl (cS0, 4, .inl f_1)), (p2, .inl (cS2, 4, .inl (fun _ => 0))), (p3, .inl (cS3, 4, .inl (fun _ => 0)))] := hD
  refine lv_aload_n hx hb dX6_add_10 rfl (lv_at hl 0 rfl) ?_
  refine va_get (D := (dC, dI)) (ci := 12) (v := .ref p3) (C := RX6) (T := TX6) (N := 6) hx hb hts (by decide +kernel) hown hK hP 0 rfl rfl 3 (by decide) (hts (.fieldLink RX6 21 "Orbitdock$Ships" "water" "[I") (by decide +kernel)) (fun _ h9 => h9) rfl dX6_add_11 ?_
  refine lv_aload_n hx hb dX6_add_14 rfl (lv_at hl 0 rfl) ?_
  refine va_get (D := (dC, dI)) (ci := 12) (v := .int 0) (C := RX6) (T := TX6) (N := 6) hx hb hts (by decide +kernel) hown hK hP 0 rfl rfl 5 (by decide) (hts (.fieldLink RX6 28 "Orbitdock$Ships" "count" "I") (by decide +kernel)) (fun _ h9 => h9) rfl dX6_add_15 ?_
  refine lv_iload_n hx hb dX6_add_18 rfl (lv_at hl 2 rfl) ?_
  refine va_iast hx hb hK hP hD hS 3 2 rfl rfl (by unfold vp_in; decide) dX6_add_19 (fun H locs hP hD hS => ?_)
  have hP : va_P (dC, dI) vwCl [(sh, .inr (12, [.ref p0, .ref p1, .ref p2, .ref p3, .ref p4, .int 0])), (p0, .inl (cS0, 4, .inl f_1)), (p2, .inl (cS2, 4, .inl (fun _ => 0))), (p3, .inl (cS3, 4, .inl (upd (fun _ => 0) (0 : Int32).toNatClampNeg b)))] H := hP
  have hD : va_D A [(sh, .inr (12, [.ref p0, .ref p1, .ref p2, .ref p3, .ref p4, .int 0])), (p0, .inl (cS0, 4, .inl f_1)), (p2, .inl (cS2, 4, .inl (fun _ => 0))), (p3, .inl (cS3, 4, .inl (upd (fun _ => 0) (0 : Int32).toNatClampNeg b)))] := hD
  obtain ⟨f_2, ef_2⟩ : ∃ y : Nat → Int32, y = upd (fun _ => 0) (0 : Int32).toNatClampNeg b := ⟨_, rfl⟩
  rw [← ef_2] at hP hD
  have hP : va_P (dC, dI) vwCl [(sh, .inr (12, [.ref p0, .ref p1, .ref p2, .ref p3, .ref p4, .int 0])), (p0, .inl (cS0, 4, .inl f_1)), (p2, .inl (cS2, 4, .inl (fun _ => 0))), (p3, .inl (cS3, 4, .inl f_2))] H := hP
  have hD : va_D A [(sh, .inr (12, [.ref p0, .ref p1, .ref p2, .ref p3, .ref p4, .int 0])), (p0, .inl (cS0, 4, .inl f_1)), (p2, .inl (cS2, 4, .inl (fun _ => 0))), (p3, .inl (cS3, 4, .inl f_2))] := hD
  refine lv_aload_n hx hb dX6_add_20 rfl (lv_at hl 0 rfl) ?_
  refine va_get (D := (dC, dI)) (ci := 12) (v := .ref p2) (C := RX6) (T := TX6) (N := 6) hx hb hts (by decide +kernel) hown hK hP 0 rfl rfl 2 (by decide) (hts (.fieldLink RX6 18 "Orbitdock$Ships" "fuel" "[I") (by decide +kernel)) (fun _ h9 => h9) rfl dX6_add_21 ?_
  refine lv_aload_n hx hb dX6_add_24 rfl (lv_at hl 0 rfl) ?_
  refine va_get (D := (dC, dI)) (ci := 12) (v := .int 0) (C := RX6) (T := TX6) (N := 6) hx hb hts (by decide +kernel) hown hK hP 0 rfl rfl 5 (by decide) (hts (.fieldLink RX6 28 "Orbitdock$Ships" "count" "I") (by decide +kernel)) (fun _ h9 => h9) rfl dX6_add_25 ?_
  refine lv_bipush (v := 20) hx hb dX6_add_28 (by decide) ?_
  refine va_iast hx hb hK hP hD hS 2 1 rfl rfl (by unfold vp_in; decide) dX6_add_30 (fun H locs hP hD hS => ?_)
  have hP : va_P (dC, dI) vwCl [(sh, .inr (12, [.ref p0, .ref p1, .ref p2, .ref p3, .ref p4, .int 0])), (p0, .inl (cS0, 4, .inl f_1)), (p2, .inl (cS2, 4, .inl (upd (fun _ => 0) (0 : Int32).toNatClampNeg 20))), (p3, .inl (cS3, 4, .inl f_2))] H := hP
  have hD : va_D A [(sh, .inr (12, [.ref p0, .ref p1, .ref p2, .ref p3, .ref p4, .int 0])), (p0, .inl (cS0, 4, .inl f_1)), (p2, .inl (cS2, 4, .inl (upd (fun _ => 0) (0 : Int32).toNatClampNeg 20))), (p3, .inl (cS3, 4, .inl f_2))] := hD
  obtain ⟨f_3, ef_3⟩ : ∃ y : Nat → Int32, y = upd (fun _ => 0) (0 : Int32).toNatClampNeg 20 := ⟨_, rfl⟩
  rw [← ef_3] at hP hD
  have hP : va_P (dC, dI) vwCl [(sh, .inr (12, [.ref p0, .ref p1, .ref p2, .ref p3, .ref p4, .int 0])), (p0, .inl (cS0, 4, .inl f_1)), (p2, .inl (cS2, 4, .inl f_3)), (p3, .inl (cS3, 4, .inl f_2))] H := hP
  have hD : va_D A [(sh, .inr (12, [.ref p0, .ref p1, .ref p2, .ref p3, .ref p4, .int 0])), (p0, .inl (cS0, 4, .inl f_1)), (p2, .inl (cS2, 4, .inl f_3)), (p3, .inl (cS3, 4, .inl f_2))] := hD
  refine lv_aload_n hx hb dX6_add_31 rfl (lv_at hl 0 rfl) ?_
  refine lv_dup hx hb dX6_add_32 rfl ?_
  refine va_get (D := (dC, dI)) (ci := 12) (v := .int 0) (C := RX6) (T := TX6) (N := 6) hx hb hts (by decide +kernel) hown hK hP 0 rfl rfl 5 (by decide) (hts (.fieldLink RX6 28 "Orbitdock$Ships" "count" "I") (by decide +kernel)) (fun _ h9 => h9) rfl dX6_add_33 ?_
  refine lv_iconst (v := 1) hx hb dX6_add_36 (by decide) ?_
  refine lv_iadd hx hb dX6_add_37 ?_
  refine lv_topi (fun z_4 ez_4 => ?_)
  obtain rfl : z_4 = 1 := ez_4.trans (by decide)
  refine va_put (D := (dC, dI)) (ci := 12) (v := .int 1) (ty := .int) (C := RX6) (T := TX6) (N := 6) hx hb hts (by decide +kernel) tyX6 tyX6_ok nmX6 hown hK hP hD hS 0 rfl rfl 5 (by decide) (hts (.fieldLink RX6 28 "Orbitdock$Ships" "count" "I") (by decide +kernel)) (fun _ h9 => h9) rfl (by decide +kernel) rfl rfl (Nat.le_of_ble_eq_true rfl) dX6_add_38 (fun H locs hP hD hS => ?_)
  have hP : va_P (dC, dI) vwCl [(sh, .inr (12, [.ref p0, .ref p1, .ref p2, .ref p3, .ref p4, .int 1])), (p0, .inl (cS0, 4, .inl f_1)), (p2, .inl (cS2, 4, .inl f_3)), (p3, .inl (cS3, 4, .inl f_2))] H := hP
  have hD : va_D A [(sh, .inr (12, [.ref p0, .ref p1, .ref p2, .ref p3, .ref p4, .int 1])), (p0, .inl (cS0, 4, .inl f_1)), (p2, .inl (cS2, 4, .inl f_3)), (p3, .inl (cS3, 4, .inl f_2))] := hD
  refine lv_aload_n hx hb dX6_add_41 rfl (lv_at hl 0 rfl) ?_
  refine va_get (D := (dC, dI)) (ci := 12) (v := .int 1) (C := RX6) (T := TX6) (N := 6) hx hb hts (by decide +kernel) hown hK hP 0 rfl rfl 5 (by decide) (hts (.fieldLink RX6 28 "Orbitdock$Ships" "count" "I") (by decide +kernel)) (fun _ h9 => h9) rfl dX6_add_42 ?_
  refine lv_iconst (v := 1) hx hb dX6_add_45 (by decide) ?_
  refine lv_isub hx hb dX6_add_46 ?_
  refine lv_topi (fun z_5 ez_5 => ?_)
  obtain rfl : z_5 = 0 := ez_5.trans (by decide)
  refine W.widen (k := 0) (n := 0) (Nat.le_of_ble_eq_true rfl) (Nat.le_of_ble_eq_true rfl) ?_
  exact W.iret (v := 0) hx hb hr (fun t ht hW => ⟨⟨0, (), rfl, rfl, trivial⟩, hS.F ht⟩) hS.2.2 dX6_add_47

set_option maxHeartbeats 4000000 in
set_option maxRecDepth 100000 in
theorem c_cx_approach_y (l : Launch) (dC : Nat → ClassId) (dI : Nat → Nat → Nat) (E : Nat → Nat) (x : Nat) (now : Nat) (fc : Nat) (ro : Nat) (hto : Nat) (de : Nat) (cr : Nat) (co : Nat) (sh : Nat) (eo : Nat) (p0 : Nat) (p1 : Nat) (p2 : Nat) (p3 : Nat) (p4 : Nat) (cS0 : ClassId) (cS2 : ClassId) (cS3 : ClassId) (a : Int32) (b : Int32) (sz : Nat) (hla1 : ¬ a < 1) (hua1 : ¬ 500 < a) (hla2 : ¬ b < 0) (hua2 : ¬ 99 < b) : Met l yX8_approach wsX8_approach ({ frames := 1, cells := 0, slots := 0, locals := 22 }) (va_Pc [.ref x, .int a, .int b] (pre dC dI E [(x, .inr (14, [.ref now, .ref fc])), (now, .inr (13, [.ref ro, .ref hto, .ref de, .ref cr, .ref co, .ref sh, .ref eo, .int 0, .int 0, .int 10, .int 100, .int 50, .int 0, .int 50])), (sh, .inr (12, [.ref p0, .ref p1, .ref p2, .ref p3, .ref p4, .int 0])), (p0, .inl (cS0, 4, .inl (fun _ => 0))), (p2, .inl (cS2, 4, .inl (fun _ => 0))), (p3, .inl (cS3, 4, .inl (fun _ => 0)))] [(cS0, .int), (cS2, .int), (cS3, .int)] sz)) (va_Qi (fun (r : Int32) (_ : Unit) => r = 0) (fun _ t => True) (va_A [(x, .inr (14, [.ref now, .ref fc])), (now, .inr (13, [.ref ro, .ref hto, .ref de, .ref cr, .ref co, .ref sh, .ref eo, .int 0, .int 0, .int 10, .int 100, .int 50, .int 0, .int 50])), (sh, .inr (12, [.ref p0, .ref p1, .ref p2, .ref p3, .ref p4, .int 0])), (p0, .inl (cS0, 4, .inl (fun _ => 0))), (p2, .inl (cS2, 4, .inl (fun _ => 0))), (p3, .inl (cS3, 4, .inl (fun _ => 0)))] sz)) 0 0 (va_A [(x, .inr (14, [.ref now, .ref fc])), (now, .inr (13, [.ref ro, .ref hto, .ref de, .ref cr, .ref co, .ref sh, .ref eo, .int 0, .int 0, .int 10, .int 100, .int 50, .int 0, .int 50])), (sh, .inr (12, [.ref p0, .ref p1, .ref p2, .ref p3, .ref p4, .int 0])), (p0, .inl (cS0, 4, .inl (fun _ => 0))), (p2, .inl (cS2, 4, .inl (fun _ => 0))), (p3, .inl (cS3, 4, .inl (fun _ => 0)))] sz) := by
  refine Met.ofW (cc := cX8_approach) (maxL := 3) (ret := (some .int)) (by decide) rfl ?_
  intro p e s m args below meth c s₁ B hml hv
  obtain ⟨rfl, hsz, hP, hK, hD0, hE, hZ0⟩ := hv
  have hx := B.exec
  have hb := B.bytes
  have hr := B.returns
  have hts := atoms_spec (ws := wsX8_approach) B.pre
  have hown : s.vm.findClass RX8 = some m.cls := findClass_of_methodNamed B.named
  have hlocks := B.notSynchronized
  subst hsz
  have hD := hD0.self (sz := s.heap.size)
  generalize hAe : va_A [(x, .inr (14, [.ref now, .ref fc])), (now, .inr (13, [.ref ro, .ref hto, .ref de, .ref cr, .ref co, .ref sh, .ref eo, .int 0, .int 0, .int 10, .int 100, .int 50, .int 0, .int 50])), (sh, .inr (12, [.ref p0, .ref p1, .ref p2, .ref p3, .ref p4, .int 0])), (p0, .inl (cS0, 4, .inl (fun _ => 0))), (p2, .inl (cS2, 4, .inl (fun _ => 0))), (p3, .inl (cS3, 4, .inl (fun _ => 0)))] s.heap.size = A at hD hZ0 ⊢
  have hZ := hZ0
  have hA : ∀ q : Nat, s.heap.size ≤ q → A q := fun q h => by rw [← hAe]; exact Or.inr h
  have hS : va_S A s.heap s.heap [] := va_S.rf
  have hP : va_P (dC, dI) vwCl [(x, .inr (14, [.ref now, .ref fc])), (now, .inr (13, [.ref ro, .ref hto, .ref de, .ref cr, .ref co, .ref sh, .ref eo, .int 0, .int 0, .int 10, .int 100, .int 50, .int 0, .int 50])), (sh, .inr (12, [.ref p0, .ref p1, .ref p2, .ref p3, .ref p4, .int 0])), (p0, .inl (cS0, 4, .inl (fun _ => 0))), (p2, .inl (cS2, 4, .inl (fun _ => 0))), (p3, .inl (cS3, 4, .inl (fun _ => 0)))] s.heap := hP
  have hl := lv_entry ([.ref x, .int a, .int b]) (n := 3) (Nat.le_of_ble_eq_true rfl)
  rw [lg_entry_eq]
  generalize (lg_sl ([.ref x, .int a, .int b]) ++ List.replicate (3 - (lg_sl ([.ref x, .int a, .int b])).length) Slot.unset).toArray = ls at hl ⊢
  have hl : lv_has ls 3 [(0, .ref x), (1, .int a), (2, .int b)] := hl
  refine lv_iload_n hx hb dX8_approach_0 rfl (lv_at hl 1 rfl) ?_
  refine lv_iconst (v := 1) hx hb dX8_approach_1 (by decide) ?_
  refine lv_sipush (v := 500) hx hb dX8_approach_2 (by decide) ?_
  have hPc := hP.sub (ws' := []) [] rfl
  have hDc := hD.sub (ws' := []) [] (by decide) rfl
  have hKc := hK.sub (tys' := []) [] rfl
  have hFc := va_free (wc := []) hD hS hA [] rfl
  refine va_callv (va_runS (As := [.int a, .int 1, .int 500]) (rest := []) ⟨hx, hb, hml, hown, hts⟩ (c_rqRg_y l dC dI E a 1 500 s.heap.size hla1 hua1) (va_cwS 3 hts gX8_approach_X8_requireRange rfl rfl rfl (by decide +kernel) ⟨(Nat.le_of_ble_eq_true rfl), (Nat.le_of_ble_eq_true rfl)⟩) ⟨pre_blind, pre_call hPc hDc hKc hFc hE hZ hS⟩ rfl rfl hl.1 rfl (lv_room (Nat.le_of_ble_eq_true rfl)) dX8_approach_5 ⟨(Nat.le_of_ble_eq_true rfl), (Nat.le_of_ble_eq_true rfl)⟩) hS (fun q _ h => hFc q h) hFc (fun u t H1 locs1 ht hvm hw hB hz1 hk1 hS => ?_)
  obtain ⟨hP, hD, hK⟩ := pst_join (wc := []) (wr := [(x, .inr (14, [.ref now, .ref fc])), (now, .inr (13, [.ref ro, .ref hto, .ref de, .ref cr, .ref co, .ref sh, .ref eo, .int 0, .int 0, .int 10, .int 100, .int 50, .int 0, .int 50])), (sh, .inr (12, [.ref p0, .ref p1, .ref p2, .ref p3, .ref p4, .int 0])), (p0, .inl (cS0, 4, .inl (fun _ => 0))), (p2, .inl (cS2, 4, .inl (fun _ => 0))), (p3, .inl (cS3, 4, .inl (fun _ => 0)))]) (w1 := []) (tr := [(cS0, .int), (cS2, .int), (cS3, .int)]) (t1 := []) hP hD hK [] [0, 1, 2, 3, 4, 5] [0, 1, 2] rfl rfl rfl (by decide) (by decide) hk1 hFc ht hvm hB
  generalize H1 = H at hP hS ⊢
  have hP : va_P (dC, dI) vwCl [(x, .inr (14, [.ref now, .ref fc])), (now, .inr (13, [.ref ro, .ref hto, .ref de, .ref cr, .ref co, .ref sh, .ref eo, .int 0, .int 0, .int 10, .int 100, .int 50, .int 0, .int 50])), (sh, .inr (12, [.ref p0, .ref p1, .ref p2, .ref p3, .ref p4, .int 0])), (p0, .inl (cS0, 4, .inl (fun _ => 0))), (p2, .inl (cS2, 4, .inl (fun _ => 0))), (p3, .inl (cS3, 4, .inl (fun _ => 0)))] H := hP
  have hD : va_D A [(x, .inr (14, [.ref now, .ref fc])), (now, .inr (13, [.ref ro, .ref hto, .ref de, .ref cr, .ref co, .ref sh, .ref eo, .int 0, .int 0, .int 10, .int 100, .int 50, .int 0, .int 50])), (sh, .inr (12, [.ref p0, .ref p1, .ref p2, .ref p3, .ref p4, .int 0])), (p0, .inl (cS0, 4, .inl (fun _ => 0))), (p2, .inl (cS2, 4, .inl (fun _ => 0))), (p3, .inl (cS3, 4, .inl (fun _ => 0)))] := hD
  have hK : va_K (dC, dI) vwCl [(cS0, .int), (cS2, .int), (cS3, .int)] s := hK
  refine W.widen (k := 0) (n := 0) (Nat.le_of_ble_eq_true rfl) (Nat.le_of_ble_eq_true rfl) ?_
  refine lv_iload_n hx hb dX8_approach_8 rfl (lv_at hl 2 rfl) ?_
  refine lv_iconst (v := 0) hx hb dX8_approach_9 (by decide) ?_
  refine lv_bipush (v := 99) hx hb dX8_approach_10 (by decide) ?_
  have hPc := hP.sub (ws' := []) [] rfl
  have hDc := hD.sub (ws' := []) [] (by decide) rfl
  have hKc := hK.sub (tys' := []) [] rfl
  have hFc := va_free (wc := []) hD hS hA [] rfl
  refine va_callv (va_runS (As := [.int b, .int 0, .int 99]) (rest := []) ⟨hx, hb, hml, hown, hts⟩ (c_rqRg_y l dC dI E b 0 99 H.size hla2 hua2) (va_cwS 3 hts gX8_approach_X8_requireRange rfl rfl rfl (by decide +kernel) ⟨(Nat.le_of_ble_eq_true rfl), (Nat.le_of_ble_eq_true rfl)⟩) ⟨pre_blind, pre_call hPc hDc hKc hFc hE hZ hS⟩ rfl rfl hl.1 rfl (lv_room (Nat.le_of_ble_eq_true rfl)) dX8_approach_12 ⟨(Nat.le_of_ble_eq_true rfl), (Nat.le_of_ble_eq_true rfl)⟩) hS (fun q _ h => hFc q h) hFc (fun u t H1 locs1 ht hvm hw hB hz1 hk1 hS => ?_)
  obtain ⟨hP, hD, hK⟩ := pst_join (wc := []) (wr := [(x, .inr (14, [.ref now, .ref fc])), (now, .inr (13, [.ref ro, .ref hto, .ref de, .ref cr, .ref co, .ref sh, .ref eo, .int 0, .int 0, .int 10, .int 100, .int 50, .int 0, .int 50])), (sh, .inr (12, [.ref p0, .ref p1, .ref p2, .ref p3, .ref p4, .int 0])), (p0, .inl (cS0, 4, .inl (fun _ => 0))), (p2, .inl (cS2, 4, .inl (fun _ => 0))), (p3, .inl (cS3, 4, .inl (fun _ => 0)))]) (w1 := []) (tr := [(cS0, .int), (cS2, .int), (cS3, .int)]) (t1 := []) hP hD hK [] [0, 1, 2, 3, 4, 5] [0, 1, 2] rfl rfl rfl (by decide) (by decide) hk1 hFc ht hvm hB
  generalize H1 = H at hP hS ⊢
  have hP : va_P (dC, dI) vwCl [(x, .inr (14, [.ref now, .ref fc])), (now, .inr (13, [.ref ro, .ref hto, .ref de, .ref cr, .ref co, .ref sh, .ref eo, .int 0, .int 0, .int 10, .int 100, .int 50, .int 0, .int 50])), (sh, .inr (12, [.ref p0, .ref p1, .ref p2, .ref p3, .ref p4, .int 0])), (p0, .inl (cS0, 4, .inl (fun _ => 0))), (p2, .inl (cS2, 4, .inl (fun _ => 0))), (p3, .inl (cS3, 4, .inl (fun _ => 0)))] H := hP
  have hD : va_D A [(x, .inr (14, [.ref now, .ref fc])), (now, .inr (13, [.ref ro, .ref hto, .ref de, .ref cr, .ref co, .ref sh, .ref eo, .int 0, .int 0, .int 10, .int 100, .int 50, .int 0, .int 50])), (sh, .inr (12, [.ref p0, .ref p1, .ref p2, .ref p3, .ref p4, .int 0])), (p0, .inl (cS0, 4, .inl (fun _ => 0))), (p2, .inl (cS2, 4, .inl (fun _ => 0))), (p3, .inl (cS3, 4, .inl (fun _ => 0)))] := hD
  have hK : va_K (dC, dI) vwCl [(cS0, .int), (cS2, .int), (cS3, .int)] s := hK
  refine W.widen (k := 0) (n := 0) (Nat.le_of_ble_eq_true rfl) (Nat.le_of_ble_eq_true rfl) ?_
  refine lv_aload_n hx hb dX8_approach_15 rfl (lv_at hl 0 rfl) ?_
  refine va_get (D := (dC, dI)) (ci := 14) (v := .ref now) (C := RX8) (T := TX8) (N := 2) hx hb hts (by decide +kernel) hown hK hP 0 rfl rfl 0 (by decide) (hts (.fieldLink RX8 14 "Orbitdock" "now" "LOrbitdock$Station;") (by decide +kernel)) (fun _ h9 => h9) rfl dX8_approach_16 ?_
  refine va_get (D := (dC, dI)) (ci := 13) (v := .ref sh) (C := RX7) (T := TX7) (N := 14) hx hb hts (by decide +kernel) hown hK hP 1 rfl rfl 5 (by decide) (hts (.fieldLink RX8 168 "Orbitdock$Station" "ships" "LOrbitdock$Ships;") (by decide +kernel)) (fun _ h9 => h9) rfl dX8_approach_19 ?_
  have hPc := hP.sub (ws' := [(sh, .inr (12, [.ref p0, .ref p1, .ref p2, .ref p3, .ref p4, .int 0]))]) [2] rfl
  have hDc := hD.sub (ws' := [(sh, .inr (12, [.ref p0, .ref p1, .ref p2, .ref p3, .ref p4, .int 0]))]) [2] (by decide) rfl
  have hKc := hK.sub (tys' := []) [] rfl
  have hFc := va_free (wc := [(sh, .inr (12, [.ref p0, .ref p1, .ref p2, .ref p3, .ref p4, .int 0]))]) hD hS hA [2] rfl
  refine va_calli (va_runV (As := []) (rest := []) ⟨hx, hb, hml, hown, hts⟩ (c_shipsFull l dC dI E sh p0 p1 p2 p3 p4 H.size) (cwV 0 hts gX8_approach_X6_isFull rfl rfl rfl (by decide +kernel) ⟨(Nat.le_of_ble_eq_true rfl), (Nat.le_of_ble_eq_true rfl)⟩) ⟨pre_blind, va_recv hKc hPc (ci := 12) (q0 := 0) rfl rfl, pre_call hPc hDc hKc hFc hE hZ hS⟩ rfl rfl hl.1 rfl (lv_room (Nat.le_of_ble_eq_true rfl)) dX8_approach_22 ⟨(Nat.le_of_ble_eq_true rfl), (Nat.le_of_ble_eq_true rfl)⟩) hS (fun q _ h => hFc q h) hFc (fun r u t H1 locs1 ht hvm hw hB hz1 hk1 hS => ?_)
  have hw9 : r = 0 := hw
  rw [hw9]
  obtain ⟨hP, hD, hK⟩ := pst_join (wc := [(sh, .inr (12, [.ref p0, .ref p1, .ref p2, .ref p3, .ref p4, .int 0]))]) (wr := [(x, .inr (14, [.ref now, .ref fc])), (now, .inr (13, [.ref ro, .ref hto, .ref de, .ref cr, .ref co, .ref sh, .ref eo, .int 0, .int 0, .int 10, .int 100, .int 50, .int 0, .int 50])), (p0, .inl (cS0, 4, .inl (fun _ => 0))), (p2, .inl (cS2, 4, .inl (fun _ => 0))), (p3, .inl (cS3, 4, .inl (fun _ => 0)))]) (w1 := [(sh, .inr (12, [.ref p0, .ref p1, .ref p2, .ref p3, .ref p4, .int 0]))]) (tr := [(cS0, .int), (cS2, .int), (cS3, .int)]) (t1 := []) hP hD hK [2] [0, 1, 3, 4, 5] [0, 1, 2] rfl rfl rfl (by decide) (by decide) hk1 hFc ht hvm hB
  generalize H1 = H at hP hS ⊢
  have hP : va_P (dC, dI) vwCl [(x, .inr (14, [.ref now, .ref fc])), (now, .inr (13, [.ref ro, .ref hto, .ref de, .ref cr, .ref co, .ref sh, .ref eo, .int 0, .int 0, .int 10, .int 100, .int 50, .int 0, .int 50])), (p0, .inl (cS0, 4, .inl (fun _ => 0))), (p2, .inl (cS2, 4, .inl (fun _ => 0))), (p3, .inl (cS3, 4, .inl (fun _ => 0))), (sh, .inr (12, [.ref p0, .ref p1, .ref p2, .ref p3, .ref p4, .int 0]))] H := hP
  have hD : va_D A [(x, .inr (14, [.ref now, .ref fc])), (now, .inr (13, [.ref ro, .ref hto, .ref de, .ref cr, .ref co, .ref sh, .ref eo, .int 0, .int 0, .int 10, .int 100, .int 50, .int 0, .int 50])), (p0, .inl (cS0, 4, .inl (fun _ => 0))), (p2, .inl (cS2, 4, .inl (fun _ => 0))), (p3, .inl (cS3, 4, .inl (fun _ => 0))), (sh, .inr (12, [.ref p0, .ref p1, .ref p2, .ref p3, .ref p4, .int 0]))] := hD
  have hK : va_K (dC, dI) vwCl [(cS0, .int), (cS2, .int), (cS3, .int)] s := hK
  refine W.widen (k := 0) (n := 0) (Nat.le_of_ble_eq_true rfl) (Nat.le_of_ble_eq_true rfl) ?_
  refine lv_if_eq (tgt := 38) hx hb dX8_approach_25 (by decide) (fun _ => ?_) (fun c9 => absurd (by decide) c9)
  refine lv_aload_n hx hb dX8_approach_38 rfl (lv_at hl 0 rfl) ?_
  refine va_get (D := (dC, dI)) (ci := 14) (v := .ref now) (C := RX8) (T := TX8) (N := 2) hx hb hts (by decide +kernel) hown hK hP 0 rfl rfl 0 (by decide) (hts (.fieldLink RX8 14 "Orbitdock" "now" "LOrbitdock$Station;") (by decide +kernel)) (fun _ h9 => h9) rfl dX8_approach_39 ?_
  refine va_get (D := (dC, dI)) (ci := 13) (v := .ref sh) (C := RX7) (T := TX7) (N := 14) hx hb hts (by decide +kernel) hown hK hP 1 rfl rfl 5 (by decide) (hts (.fieldLink RX8 168 "Orbitdock$Station" "ships" "LOrbitdock$Ships;") (by decide +kernel)) (fun _ h9 => h9) rfl dX8_approach_42 ?_
  refine lv_iload_n hx hb dX8_approach_45 rfl (lv_at hl 1 rfl) ?_
  refine lv_iload_n hx hb dX8_approach_46 rfl (lv_at hl 2 rfl) ?_
  have hPc := hP.sub (ws' := [(sh, .inr (12, [.ref p0, .ref p1, .ref p2, .ref p3, .ref p4, .int 0])), (p0, .inl (cS0, 4, .inl (fun _ => 0))), (p2, .inl (cS2, 4, .inl (fun _ => 0))), (p3, .inl (cS3, 4, .inl (fun _ => 0)))]) [5, 2, 3, 4] rfl
  have hDc := hD.sub (ws' := [(sh, .inr (12, [.ref p0, .ref p1, .ref p2, .ref p3, .ref p4, .int 0])), (p0, .inl (cS0, 4, .inl (fun _ => 0))), (p2, .inl (cS2, 4, .inl (fun _ => 0))), (p3, .inl (cS3, 4, .inl (fun _ => 0)))]) [5, 2, 3, 4] (by decide) rfl
  have hKc := hK.sub (tys' := [(cS0, .int), (cS2, .int), (cS3, .int)]) [0, 1, 2] rfl
  have hFc := va_free (wc := [(sh, .inr (12, [.ref p0, .ref p1, .ref p2, .ref p3, .ref p4, .int 0])), (p0, .inl (cS0, 4, .inl (fun _ => 0))), (p2, .inl (cS2, 4, .inl (fun _ => 0))), (p3, .inl (cS3, 4, .inl (fun _ => 0)))]) hD hS hA [5, 2, 3, 4] rfl
  refine va_calli (va_runV (As := [.int a, .int b]) (rest := []) ⟨hx, hb, hml, hown, hts⟩ (c_shipsAdd l dC dI E sh p0 p1 p2 p3 p4 cS0 cS2 cS3 a b H.size) (cwV 2 hts gX8_approach_X6_add rfl rfl rfl (by decide +kernel) ⟨(Nat.le_of_ble_eq_true rfl), (Nat.le_of_ble_eq_true rfl)⟩) ⟨pre_blind, va_recv hKc hPc (ci := 12) (q0 := 0) rfl rfl, pre_call hPc hDc hKc hFc hE hZ hS⟩ rfl rfl hl.1 rfl (lv_room (Nat.le_of_ble_eq_true rfl)) dX8_approach_47 ⟨(Nat.le_of_ble_eq_true rfl), (Nat.le_of_ble_eq_true rfl)⟩) hS (fun q _ h => hFc q h) hFc (fun r u t H1 locs1 ht hvm hw hB hz1 hk1 hS => ?_)
  have hw9 : r = 0 := hw
  rw [hw9]
  obtain ⟨hP, hD, hK⟩ := pst_drop (wc := [(sh, .inr (12, [.ref p0, .ref p1, .ref p2, .ref p3, .ref p4, .int 0])), (p0, .inl (cS0, 4, .inl (fun _ => 0))), (p2, .inl (cS2, 4, .inl (fun _ => 0))), (p3, .inl (cS3, 4, .inl (fun _ => 0)))]) (wr := [(x, .inr (14, [.ref now, .ref fc])), (now, .inr (13, [.ref ro, .ref hto, .ref de, .ref cr, .ref co, .ref sh, .ref eo, .int 0, .int 0, .int 10, .int 100, .int 50, .int 0, .int 50]))]) (tr := []) hP hD hK [5, 2, 3, 4] [0, 1] [] rfl rfl rfl (by decide) (by decide) hk1 hFc
  generalize H1 = H at hP hS ⊢
  have hP : va_P (dC, dI) vwCl [(x, .inr (14, [.ref now, .ref fc])), (now, .inr (13, [.ref ro, .ref hto, .ref de, .ref cr, .ref co, .ref sh, .ref eo, .int 0, .int 0, .int 10, .int 100, .int 50, .int 0, .int 50]))] H := hP
  have hD : va_D A [(x, .inr (14, [.ref now, .ref fc])), (now, .inr (13, [.ref ro, .ref hto, .ref de, .ref cr, .ref co, .ref sh, .ref eo, .int 0, .int 0, .int 10, .int 100, .int 50, .int 0, .int 50]))] := hD
  have hK : va_K (dC, dI) vwCl [] s := hK
  refine W.widen (k := 0) (n := 0) (Nat.le_of_ble_eq_true rfl) (Nat.le_of_ble_eq_true rfl) ?_
  refine W.widen (k := 0) (n := 0) (Nat.le_of_ble_eq_true rfl) (Nat.le_of_ble_eq_true rfl) ?_
  exact W.iret (v := 0) hx hb hr (fun t ht hW => ⟨⟨0, (), rfl, rfl, trivial⟩, hS.F ht⟩) hS.2.2 dX8_approach_50

set_option maxHeartbeats 4000000 in
set_option maxRecDepth 100000 in
theorem c_roomsFull (l : Launch) (dC : Nat → ClassId) (dI : Nat → Nat → Nat) (E : Nat → Nat) (ro : Nat) (a0 : Nat) (a1 : Nat) (a2 : Nat) (sz : Nat) : Met l yX5_isFull wsX5_isFull ({ frames := 0, cells := 0, slots := 0, locals := 0 }) (va_Pc [.ref ro] (pre dC dI E [(ro, .inr (11, [.ref a0, .ref a1, .ref a2, .int 0, .int 0]))] [] sz)) (va_Qi (fun (r : Int32) (_ : Unit) => r = 0) (fun _ t => pst dC dI (va_A [(ro, .inr (11, [.ref a0, .ref a1, .ref a2, .int 0, .int 0]))] sz) [(ro, .inr (11, [.ref a0, .ref a1, .ref a2, .int 0, .int 0]))] [] t) (va_A [(ro, .inr (11, [.ref a0, .ref a1, .ref a2, .int 0, .int 0]))] sz)) 0 0 (va_A [(ro, .inr (11, [.ref a0, .ref a1, .ref a2, .int 0, .int 0]))] sz) := by
  refine Met.ofW (cc := cX5_isFull) (maxL := 1) (ret := (some .boolean)) (by decide) rfl ?_
  intro p e s m args below meth c s₁ B hml hv
  obtain ⟨rfl, hsz, hP, hK, hD0, hE, hZ0⟩ := hv
  have hx := B.exec
  have hb := B.bytes
  have hr := B.returns
  have hts := atoms_spec (ws := wsX5_isFull) B.pre
  have hown : s.vm.findClass RX5 = some m.cls := findClass_of_methodNamed B.named
  have hlocks := B.notSynchronized
  subst hsz
  have hD := hD0.self (sz := s.heap.size)
  generalize hAe : va_A [(ro, .inr (11, [.ref a0, .ref a1, .ref a2, .int 0, .int 0]))] s.heap.size = A at hD hZ0 ⊢
  have hZ := hZ0
  have hA : ∀ q : Nat, s.heap.size ≤ q → A q := fun q h => by rw [← hAe]; exact Or.inr h
  have hS : va_S A s.heap s.heap [] := va_S.rf
  have hP : va_P (dC, dI) vwCl [(ro, .inr (11, [.ref a0, .ref a1, .ref a2, .int 0, .int 0]))] s.heap := hP
  have hl := lv_entry ([.ref ro]) (n := 1) (Nat.le_of_ble_eq_true rfl)
  rw [lg_entry_eq]
  generalize (lg_sl ([.ref ro]) ++ List.replicate (1 - (lg_sl ([.ref ro])).length) Slot.unset).toArray = ls at hl ⊢
  have hl : lv_has ls 1 [(0, .ref ro)] := hl
  refine lv_aload_n hx hb dX5_isFull_0 rfl (lv_at hl 0 rfl) ?_
  refine va_get (D := (dC, dI)) (ci := 11) (v := .int 0) (C := RX5) (T := TX5) (N := 5) hx hb hts (by decide +kernel) hown hK hP 0 rfl rfl 3 (by decide) (hts (.fieldLink RX5 21 "Orbitdock$Rooms" "count" "I") (by decide +kernel)) (fun _ h9 => h9) rfl dX5_isFull_1 ?_
  refine lv_bipush (v := 6) hx hb dX5_isFull_4 (by decide) ?_
  refine lv_icmp_lt (tgt := 13) hx hb dX5_isFull_6 (by decide) (fun _ => ?_) (fun c9 => absurd (by decide) c9)
  refine lv_iconst (v := 0) hx hb dX5_isFull_13 (by decide) ?_
  have hP9 := hP.sub (ws' := [(ro, .inr (11, [.ref a0, .ref a1, .ref a2, .int 0, .int 0]))]) [0] rfl
  have hD9 := hD.sub (ws' := [(ro, .inr (11, [.ref a0, .ref a1, .ref a2, .int 0, .int 0]))]) [0] (by decide) rfl
  have hK9 := hK.sub (tys' := []) [] rfl
  refine W.widen (k := 0) (n := 0) (Nat.le_of_ble_eq_true rfl) (Nat.le_of_ble_eq_true rfl) ?_
  exact W.zret (v := 0) hx hb hr rfl (fun t ht hW => ⟨⟨0, (), rfl, rfl, pst_of hP9 hD9 hK9 ht hW⟩, hS.F ht⟩) hS.2.2 dX5_isFull_14

set_option maxHeartbeats 4000000 in
set_option maxRecDepth 100000 in
theorem c_roomsAdd (l : Launch) (dC : Nat → ClassId) (dI : Nat → Nat → Nat) (E : Nat → Nat) (ro : Nat) (a0 : Nat) (a1 : Nat) (a2 : Nat) (cR : ClassId) (a : Int32) (sz : Nat) : Met l yX5_add wsX5_add ({ frames := 0, cells := 0, slots := 0, locals := 0 }) (va_Pc [.ref ro, .int a] (pre dC dI E [(ro, .inr (11, [.ref a0, .ref a1, .ref a2, .int 0, .int 0])), (a0, .inl (cR, 6, .inl (fun _ => 0)))] [(cR, .int)] sz)) (va_Qi (fun (r : Int32) (_ : Unit) => r = 0) (fun _ t => True) (va_A [(ro, .inr (11, [.ref a0, .ref a1, .ref a2, .int 0, .int 0])), (a0, .inl (cR, 6, .inl (fun _ => 0)))] sz)) 0 0 (va_A [(ro, .inr (11, [.ref a0, .ref a1, .ref a2, .int 0, .int 0])), (a0, .inl (cR, 6, .inl (fun _ => 0)))] sz) := by
  refine Met.ofW (cc := cX5_add) (maxL := 2) (ret := (some .int)) (by decide) rfl ?_
  intro p e s m args below meth c s₁ B hml hv
  obtain ⟨rfl, hsz, hP, hK, hD0, hE, hZ0⟩ := hv
  have hx := B.exec
  have hb := B.bytes
  have hr := B.returns
  have hts := atoms_spec (ws := wsX5_add) B.pre
  have hown : s.vm.findClass RX5 = some m.cls := findClass_of_methodNamed B.named
  have hlocks := B.notSynchronized
  subst hsz
  have hD := hD0.self (sz := s.heap.size)
  generalize hAe : va_A [(ro, .inr (11, [.ref a0, .ref a1, .ref a2, .int 0, .int 0])), (a0, .inl (cR, 6, .inl (fun _ => 0)))] s.heap.size = A at hD hZ0 ⊢
  have hZ := hZ0
  have hA : ∀ q : Nat, s.heap.size ≤ q → A q := fun q h => by rw [← hAe]; exact Or.inr h
  have hS : va_S A s.heap s.heap [] := va_S.rf
  have hP : va_P (dC, dI) vwCl [(ro, .inr (11, [.ref a0, .ref a1, .ref a2, .int 0, .int 0])), (a0, .inl (cR, 6, .inl (fun _ => 0)))] s.heap := hP
  have hl := lv_entry ([.ref ro, .int a]) (n := 2) (Nat.le_of_ble_eq_true rfl)
  rw [lg_entry_eq]
  generalize (lg_sl ([.ref ro, .int a]) ++ List.replicate (2 - (lg_sl ([.ref ro, .int a])).length) Slot.unset).toArray = ls at hl ⊢
  have hl : lv_has ls 2 [(0, .ref ro), (1, .int a)] := hl
  refine lv_aload_n hx hb dX5_add_0 rfl (lv_at hl 0 rfl) ?_
  refine va_get (D := (dC, dI)) (ci := 11) (v := .ref a0) (C := RX5) (T := TX5) (N := 5) hx hb hts (by decide +kernel) hown hK hP 0 rfl rfl 0 (by decide) (hts (.fieldLink RX5 9 "Orbitdock$Rooms" "oxygen" "[I") (by decide +kernel)) (fun _ h9 => h9) rfl dX5_add_1 ?_
  refine lv_aload_n hx hb dX5_add_4 rfl (lv_at hl 0 rfl) ?_
  refine va_get (D := (dC, dI)) (ci := 11) (v := .int 0) (C := RX5) (T := TX5) (N := 5) hx hb hts (by decide +kernel) hown hK hP 0 rfl rfl 3 (by decide) (hts (.fieldLink RX5 21 "Orbitdock$Rooms" "count" "I") (by decide +kernel)) (fun _ h9 => h9) rfl dX5_add_5 ?_
  refine lv_iload_n hx hb dX5_add_8 rfl (lv_at hl 1 rfl) ?_
  refine va_iast hx hb hK hP hD hS 1 0 rfl rfl (by unfold vp_in; decide) dX5_add_9 (fun H locs hP hD hS => ?_)
  have hP : va_P (dC, dI) vwCl [(ro, .inr (11, [.ref a0, .ref a1, .ref a2, .int 0, .int 0])), (a0, .inl (cR, 6, .inl (upd (fun _ => 0) (0 : Int32).toNatClampNeg a)))] H := hP
  have hD : va_D A [(ro, .inr (11, [.ref a0, .ref a1, .ref a2, .int 0, .int 0])), (a0, .inl (cR, 6, .inl (upd (fun _ => 0) (0 : Int32).toNatClampNeg a)))] := hD
  obtain ⟨f_1, ef_1⟩ : ∃ y : Nat → Int32, y = upd (fun _ => 0) (0 : Int32).toNatClampNeg a := ⟨_, rfl⟩
  rw [← ef_1] at hP hD
  have hP : va_P (dC, dI) vwCl [(ro, .inr (11, [.ref a0, .ref a1, .ref a2, .int 0, .int 0])), (a0, .inl (cR, 6, .inl f_1))] H := hP
  have hD : va_D A [(ro, .inr (11, [.ref a0, .ref a1, .ref a2, .int 0, .int 0])), (a0, .inl (cR, 6, .inl f_1))] := hD
  refine lv_aload_n hx hb dX5_add_10 rfl (lv_at hl 0 rfl) ?_
  refine lv_dup hx hb dX5_add_11 rfl ?_
  refine va_get (D := (dC, dI)) (ci := 11) (v := .int 0) (C := RX5) (T := TX5) (N := 5) hx hb hts (by decide +kernel) hown hK hP 0 rfl rfl 3 (by decide) (hts (.fieldLink RX5 21 "Orbitdock$Rooms" "count" "I") (by decide +kernel)) (fun _ h9 => h9) rfl dX5_add_12 ?_
  refine lv_iconst (v := 1) hx hb dX5_add_15 (by decide) ?_
  refine lv_iadd hx hb dX5_add_16 ?_
  refine lv_topi (fun z_2 ez_2 => ?_)
  obtain rfl : z_2 = 1 := ez_2.trans (by decide)
  refine va_put (D := (dC, dI)) (ci := 11) (v := .int 1) (ty := .int) (C := RX5) (T := TX5) (N := 5) hx hb hts (by decide +kernel) tyX5 tyX5_ok nmX5 hown hK hP hD hS 0 rfl rfl 3 (by decide) (hts (.fieldLink RX5 21 "Orbitdock$Rooms" "count" "I") (by decide +kernel)) (fun _ h9 => h9) rfl (by decide +kernel) rfl rfl (Nat.le_of_ble_eq_true rfl) dX5_add_17 (fun H locs hP hD hS => ?_)
  have hP : va_P (dC, dI) vwCl [(ro, .inr (11, [.ref a0, .ref a1, .ref a2, .int 1, .int 0])), (a0, .inl (cR, 6, .inl f_1))] H := hP
  have hD : va_D A [(ro, .inr (11, [.ref a0, .ref a1, .ref a2, .int 1, .int 0])), (a0, .inl (cR, 6, .inl f_1))] := hD
  refine lv_aload_n hx hb dX5_add_20 rfl (lv_at hl 0 rfl) ?_
  refine va_get (D := (dC, dI)) (ci := 11) (v := .int 1) (C := RX5) (T := TX5) (N := 5) hx hb hts (by decide +kernel) hown hK hP 0 rfl rfl 3 (by decide) (hts (.fieldLink RX5 21 "Orbitdock$Rooms" "count" "I") (by decide +kernel)) (fun _ h9 => h9) rfl dX5_add_21 ?_
  refine lv_iconst (v := 1) hx hb dX5_add_24 (by decide) ?_
  refine lv_isub hx hb dX5_add_25 ?_
  refine lv_topi (fun z_3 ez_3 => ?_)
  obtain rfl : z_3 = 0 := ez_3.trans (by decide)
  refine W.widen (k := 0) (n := 0) (Nat.le_of_ble_eq_true rfl) (Nat.le_of_ble_eq_true rfl) ?_
  exact W.iret (v := 0) hx hb hr (fun t ht hW => ⟨⟨0, (), rfl, rfl, trivial⟩, hS.F ht⟩) hS.2.2 dX5_add_26

set_option maxHeartbeats 4000000 in
set_option maxRecDepth 100000 in
theorem c_cx_addRoom_y (l : Launch) (dC : Nat → ClassId) (dI : Nat → Nat → Nat) (E : Nat → Nat) (x : Nat) (now : Nat) (fc : Nat) (ro : Nat) (hto : Nat) (de : Nat) (cr : Nat) (co : Nat) (sh : Nat) (eo : Nat) (a0 : Nat) (a1 : Nat) (a2 : Nat) (cR : ClassId) (a : Int32) (sz : Nat) (hla : ¬ a < 0) (hua : ¬ 200 < a) : Met l yX8_addRoom wsX8_addRoom ({ frames := 1, cells := 0, slots := 0, locals := 22 }) (va_Pc [.ref x, .int a] (pre dC dI E [(x, .inr (14, [.ref now, .ref fc])), (now, .inr (13, [.ref ro, .ref hto, .ref de, .ref cr, .ref co, .ref sh, .ref eo, .int 0, .int 0, .int 10, .int 100, .int 50, .int 0, .int 50])), (ro, .inr (11, [.ref a0, .ref a1, .ref a2, .int 0, .int 0])), (a0, .inl (cR, 6, .inl (fun _ => 0)))] [(cR, .int)] sz)) (va_Qi (fun (r : Int32) (_ : Unit) => r = 0) (fun _ t => True) (va_A [(x, .inr (14, [.ref now, .ref fc])), (now, .inr (13, [.ref ro, .ref hto, .ref de, .ref cr, .ref co, .ref sh, .ref eo, .int 0, .int 0, .int 10, .int 100, .int 50, .int 0, .int 50])), (ro, .inr (11, [.ref a0, .ref a1, .ref a2, .int 0, .int 0])), (a0, .inl (cR, 6, .inl (fun _ => 0)))] sz)) 0 0 (va_A [(x, .inr (14, [.ref now, .ref fc])), (now, .inr (13, [.ref ro, .ref hto, .ref de, .ref cr, .ref co, .ref sh, .ref eo, .int 0, .int 0, .int 10, .int 100, .int 50, .int 0, .int 50])), (ro, .inr (11, [.ref a0, .ref a1, .ref a2, .int 0, .int 0])), (a0, .inl (cR, 6, .inl (fun _ => 0)))] sz) := by
  refine Met.ofW (cc := cX8_addRoom) (maxL := 2) (ret := (some .int)) (by decide) rfl ?_
  intro p e s m args below meth c s₁ B hml hv
  obtain ⟨rfl, hsz, hP, hK, hD0, hE, hZ0⟩ := hv
  have hx := B.exec
  have hb := B.bytes
  have hr := B.returns
  have hts := atoms_spec (ws := wsX8_addRoom) B.pre
  have hown : s.vm.findClass RX8 = some m.cls := findClass_of_methodNamed B.named
  have hlocks := B.notSynchronized
  subst hsz
  have hD := hD0.self (sz := s.heap.size)
  generalize hAe : va_A [(x, .inr (14, [.ref now, .ref fc])), (now, .inr (13, [.ref ro, .ref hto, .ref de, .ref cr, .ref co, .ref sh, .ref eo, .int 0, .int 0, .int 10, .int 100, .int 50, .int 0, .int 50])), (ro, .inr (11, [.ref a0, .ref a1, .ref a2, .int 0, .int 0])), (a0, .inl (cR, 6, .inl (fun _ => 0)))] s.heap.size = A at hD hZ0 ⊢
  have hZ := hZ0
  have hA : ∀ q : Nat, s.heap.size ≤ q → A q := fun q h => by rw [← hAe]; exact Or.inr h
  have hS : va_S A s.heap s.heap [] := va_S.rf
  have hP : va_P (dC, dI) vwCl [(x, .inr (14, [.ref now, .ref fc])), (now, .inr (13, [.ref ro, .ref hto, .ref de, .ref cr, .ref co, .ref sh, .ref eo, .int 0, .int 0, .int 10, .int 100, .int 50, .int 0, .int 50])), (ro, .inr (11, [.ref a0, .ref a1, .ref a2, .int 0, .int 0])), (a0, .inl (cR, 6, .inl (fun _ => 0)))] s.heap := hP
  have hl := lv_entry ([.ref x, .int a]) (n := 2) (Nat.le_of_ble_eq_true rfl)
  rw [lg_entry_eq]
  generalize (lg_sl ([.ref x, .int a]) ++ List.replicate (2 - (lg_sl ([.ref x, .int a])).length) Slot.unset).toArray = ls at hl ⊢
  have hl : lv_has ls 2 [(0, .ref x), (1, .int a)] := hl
  refine lv_iload_n hx hb dX8_addRoom_0 rfl (lv_at hl 1 rfl) ?_
  refine lv_iconst (v := 0) hx hb dX8_addRoom_1 (by decide) ?_
  refine lv_sipush (v := 200) hx hb dX8_addRoom_2 (by decide) ?_
  have hPc := hP.sub (ws' := []) [] rfl
  have hDc := hD.sub (ws' := []) [] (by decide) rfl
  have hKc := hK.sub (tys' := []) [] rfl
  have hFc := va_free (wc := []) hD hS hA [] rfl
  refine va_callv (va_runS (As := [.int a, .int 0, .int 200]) (rest := []) ⟨hx, hb, hml, hown, hts⟩ (c_rqRg_y l dC dI E a 0 200 s.heap.size hla hua) (va_cwS 3 hts gX8_addRoom_X8_requireRange rfl rfl rfl (by decide +kernel) ⟨(Nat.le_of_ble_eq_true rfl), (Nat.le_of_ble_eq_true rfl)⟩) ⟨pre_blind, pre_call hPc hDc hKc hFc hE hZ hS⟩ rfl rfl hl.1 rfl (lv_room (Nat.le_of_ble_eq_true rfl)) dX8_addRoom_5 ⟨(Nat.le_of_ble_eq_true rfl), (Nat.le_of_ble_eq_true rfl)⟩) hS (fun q _ h => hFc q h) hFc (fun u t H1 locs1 ht hvm hw hB hz1 hk1 hS => ?_)
  obtain ⟨hP, hD, hK⟩ := pst_join (wc := []) (wr := [(x, .inr (14, [.ref now, .ref fc])), (now, .inr (13, [.ref ro, .ref hto, .ref de, .ref cr, .ref co, .ref sh, .ref eo, .int 0, .int 0, .int 10, .int 100, .int 50, .int 0, .int 50])), (ro, .inr (11, [.ref a0, .ref a1, .ref a2, .int 0, .int 0])), (a0, .inl (cR, 6, .inl (fun _ => 0)))]) (w1 := []) (tr := [(cR, .int)]) (t1 := []) hP hD hK [] [0, 1, 2, 3] [0] rfl rfl rfl (by decide) (by decide) hk1 hFc ht hvm hB
  generalize H1 = H at hP hS ⊢
  have hP : va_P (dC, dI) vwCl [(x, .inr (14, [.ref now, .ref fc])), (now, .inr (13, [.ref ro, .ref hto, .ref de, .ref cr, .ref co, .ref sh, .ref eo, .int 0, .int 0, .int 10, .int 100, .int 50, .int 0, .int 50])), (ro, .inr (11, [.ref a0, .ref a1, .ref a2, .int 0, .int 0])), (a0, .inl (cR, 6, .inl (fun _ => 0)))] H := hP
  have hD : va_D A [(x, .inr (14, [.ref now, .ref fc])), (now, .inr (13, [.ref ro, .ref hto, .ref de, .ref cr, .ref co, .ref sh, .ref eo, .int 0, .int 0, .int 10, .int 100, .int 50, .int 0, .int 50])), (ro, .inr (11, [.ref a0, .ref a1, .ref a2, .int 0, .int 0])), (a0, .inl (cR, 6, .inl (fun _ => 0)))] := hD
  have hK : va_K (dC, dI) vwCl [(cR, .int)] s := hK
  refine W.widen (k := 0) (n := 0) (Nat.le_of_ble_eq_true rfl) (Nat.le_of_ble_eq_true rfl) ?_
  refine lv_aload_n hx hb dX8_addRoom_8 rfl (lv_at hl 0 rfl) ?_
  refine va_get (D := (dC, dI)) (ci := 14) (v := .ref now) (C := RX8) (T := TX8) (N := 2) hx hb hts (by decide +kernel) hown hK hP 0 rfl rfl 0 (by decide) (hts (.fieldLink RX8 14 "Orbitdock" "now" "LOrbitdock$Station;") (by decide +kernel)) (fun _ h9 => h9) rfl dX8_addRoom_9 ?_
  refine va_get (D := (dC, dI)) (ci := 13) (v := .ref ro) (C := RX7) (T := TX7) (N := 14) hx hb hts (by decide +kernel) hown hK hP 1 rfl rfl 0 (by decide) (hts (.fieldLink RX8 25 "Orbitdock$Station" "rooms" "LOrbitdock$Rooms;") (by decide +kernel)) (fun _ h9 => h9) rfl dX8_addRoom_12 ?_
  have hPc := hP.sub (ws' := [(ro, .inr (11, [.ref a0, .ref a1, .ref a2, .int 0, .int 0]))]) [2] rfl
  have hDc := hD.sub (ws' := [(ro, .inr (11, [.ref a0, .ref a1, .ref a2, .int 0, .int 0]))]) [2] (by decide) rfl
  have hKc := hK.sub (tys' := []) [] rfl
  have hFc := va_free (wc := [(ro, .inr (11, [.ref a0, .ref a1, .ref a2, .int 0, .int 0]))]) hD hS hA [2] rfl
  refine va_calli (va_runV (As := []) (rest := []) ⟨hx, hb, hml, hown, hts⟩ (c_roomsFull l dC dI E ro a0 a1 a2 H.size) (cwV 0 hts gX8_addRoom_X5_isFull rfl rfl rfl (by decide +kernel) ⟨(Nat.le_of_ble_eq_true rfl), (Nat.le_of_ble_eq_true rfl)⟩) ⟨pre_blind, va_recv hKc hPc (ci := 11) (q0 := 0) rfl rfl, pre_call hPc hDc hKc hFc hE hZ hS⟩ rfl rfl hl.1 rfl (lv_room (Nat.le_of_ble_eq_true rfl)) dX8_addRoom_15 ⟨(Nat.le_of_ble_eq_true rfl), (Nat.le_of_ble_eq_true rfl)⟩) hS (fun q _ h => hFc q h) hFc (fun r u t H1 locs1 ht hvm hw hB hz1 hk1 hS => ?_)
  have hw9 : r = 0 := hw
  rw [hw9]
  obtain ⟨hP, hD, hK⟩ := pst_join (wc := [(ro, .inr (11, [.ref a0, .ref a1, .ref a2, .int 0, .int 0]))]) (wr := [(x, .inr (14, [.ref now, .ref fc])), (now, .inr (13, [.ref ro, .ref hto, .ref de, .ref cr, .ref co, .ref sh, .ref eo, .int 0, .int 0, .int 10, .int 100, .int 50, .int 0, .int 50])), (a0, .inl (cR, 6, .inl (fun _ => 0)))]) (w1 := [(ro, .inr (11, [.ref a0, .ref a1, .ref a2, .int 0, .int 0]))]) (tr := [(cR, .int)]) (t1 := []) hP hD hK [2] [0, 1, 3] [0] rfl rfl rfl (by decide) (by decide) hk1 hFc ht hvm hB
  generalize H1 = H at hP hS ⊢
  have hP : va_P (dC, dI) vwCl [(x, .inr (14, [.ref now, .ref fc])), (now, .inr (13, [.ref ro, .ref hto, .ref de, .ref cr, .ref co, .ref sh, .ref eo, .int 0, .int 0, .int 10, .int 100, .int 50, .int 0, .int 50])), (a0, .inl (cR, 6, .inl (fun _ => 0))), (ro, .inr (11, [.ref a0, .ref a1, .ref a2, .int 0, .int 0]))] H := hP
  have hD : va_D A [(x, .inr (14, [.ref now, .ref fc])), (now, .inr (13, [.ref ro, .ref hto, .ref de, .ref cr, .ref co, .ref sh, .ref eo, .int 0, .int 0, .int 10, .int 100, .int 50, .int 0, .int 50])), (a0, .inl (cR, 6, .inl (fun _ => 0))), (ro, .inr (11, [.ref a0, .ref a1, .ref a2, .int 0, .int 0]))] := hD
  have hK : va_K (dC, dI) vwCl [(cR, .int)] s := hK
  refine W.widen (k := 0) (n := 0) (Nat.le_of_ble_eq_true rfl) (Nat.le_of_ble_eq_true rfl) ?_
  refine lv_if_eq (tgt := 31) hx hb dX8_addRoom_18 (by decide) (fun _ => ?_) (fun c9 => absurd (by decide) c9)
  refine lv_aload_n hx hb dX8_addRoom_31 rfl (lv_at hl 0 rfl) ?_
  refine va_get (D := (dC, dI)) (ci := 14) (v := .ref now) (C := RX8) (T := TX8) (N := 2) hx hb hts (by decide +kernel) hown hK hP 0 rfl rfl 0 (by decide) (hts (.fieldLink RX8 14 "Orbitdock" "now" "LOrbitdock$Station;") (by decide +kernel)) (fun _ h9 => h9) rfl dX8_addRoom_32 ?_
  refine lv_dup hx hb dX8_addRoom_35 rfl ?_
  refine va_get (D := (dC, dI)) (ci := 13) (v := .int 50) (C := RX7) (T := TX7) (N := 14) hx hb hts (by decide +kernel) hown hK hP 1 rfl rfl 13 (by decide) (hts (.fieldLink RX8 42 "Orbitdock$Station" "came" "I") (by decide +kernel)) (fun _ h9 => h9) rfl dX8_addRoom_36 ?_
  refine lv_iload_n hx hb dX8_addRoom_39 rfl (lv_at hl 1 rfl) ?_
  refine lv_iadd hx hb dX8_addRoom_40 ?_
  refine va_put (D := (dC, dI)) (ci := 13) (v := .int (50 + a)) (ty := .int) (C := RX7) (T := TX7) (N := 14) hx hb hts (by decide +kernel) tyX7 tyX7_ok nmX7 hown hK hP hD hS 1 rfl rfl 13 (by decide) (hts (.fieldLink RX8 42 "Orbitdock$Station" "came" "I") (by decide +kernel)) (fun _ h9 => h9) rfl (by decide +kernel) rfl rfl (Nat.le_of_ble_eq_true rfl) dX8_addRoom_41 (fun H locs hP hD hS => ?_)
  have hP : va_P (dC, dI) vwCl [(x, .inr (14, [.ref now, .ref fc])), (now, .inr (13, [.ref ro, .ref hto, .ref de, .ref cr, .ref co, .ref sh, .ref eo, .int 0, .int 0, .int 10, .int 100, .int 50, .int 0, .int (50 + a)])), (a0, .inl (cR, 6, .inl (fun _ => 0))), (ro, .inr (11, [.ref a0, .ref a1, .ref a2, .int 0, .int 0]))] H := hP
  have hD : va_D A [(x, .inr (14, [.ref now, .ref fc])), (now, .inr (13, [.ref ro, .ref hto, .ref de, .ref cr, .ref co, .ref sh, .ref eo, .int 0, .int 0, .int 10, .int 100, .int 50, .int 0, .int (50 + a)])), (a0, .inl (cR, 6, .inl (fun _ => 0))), (ro, .inr (11, [.ref a0, .ref a1, .ref a2, .int 0, .int 0]))] := hD
  refine lv_aload_n hx hb dX8_addRoom_44 rfl (lv_at hl 0 rfl) ?_
  refine va_get (D := (dC, dI)) (ci := 14) (v := .ref now) (C := RX8) (T := TX8) (N := 2) hx hb hts (by decide +kernel) hown hK hP 0 rfl rfl 0 (by decide) (hts (.fieldLink RX8 14 "Orbitdock" "now" "LOrbitdock$Station;") (by decide +kernel)) (fun _ h9 => h9) rfl dX8_addRoom_45 ?_
  refine va_get (D := (dC, dI)) (ci := 13) (v := .ref ro) (C := RX7) (T := TX7) (N := 14) hx hb hts (by decide +kernel) hown hK hP 1 rfl rfl 0 (by decide) (hts (.fieldLink RX8 25 "Orbitdock$Station" "rooms" "LOrbitdock$Rooms;") (by decide +kernel)) (fun _ h9 => h9) rfl dX8_addRoom_48 ?_
  refine lv_iload_n hx hb dX8_addRoom_51 rfl (lv_at hl 1 rfl) ?_
  have hPc := hP.sub (ws' := [(ro, .inr (11, [.ref a0, .ref a1, .ref a2, .int 0, .int 0])), (a0, .inl (cR, 6, .inl (fun _ => 0)))]) [3, 2] rfl
  have hDc := hD.sub (ws' := [(ro, .inr (11, [.ref a0, .ref a1, .ref a2, .int 0, .int 0])), (a0, .inl (cR, 6, .inl (fun _ => 0)))]) [3, 2] (by decide) rfl
  have hKc := hK.sub (tys' := [(cR, .int)]) [0] rfl
  have hFc := va_free (wc := [(ro, .inr (11, [.ref a0, .ref a1, .ref a2, .int 0, .int 0])), (a0, .inl (cR, 6, .inl (fun _ => 0)))]) hD hS hA [3, 2] rfl
  refine va_calli (va_runV (As := [.int a]) (rest := []) ⟨hx, hb, hml, hown, hts⟩ (c_roomsAdd l dC dI E ro a0 a1 a2 cR a H.size) (cwV 1 hts gX8_addRoom_X5_add rfl rfl rfl (by decide +kernel) ⟨(Nat.le_of_ble_eq_true rfl), (Nat.le_of_ble_eq_true rfl)⟩) ⟨pre_blind, va_recv hKc hPc (ci := 11) (q0 := 0) rfl rfl, pre_call hPc hDc hKc hFc hE hZ hS⟩ rfl rfl hl.1 rfl (lv_room (Nat.le_of_ble_eq_true rfl)) dX8_addRoom_52 ⟨(Nat.le_of_ble_eq_true rfl), (Nat.le_of_ble_eq_true rfl)⟩) hS (fun q _ h => hFc q h) hFc (fun r u t H1 locs1 ht hvm hw hB hz1 hk1 hS => ?_)
  have hw9 : r = 0 := hw
  rw [hw9]
  obtain ⟨hP, hD, hK⟩ := pst_drop (wc := [(ro, .inr (11, [.ref a0, .ref a1, .ref a2, .int 0, .int 0])), (a0, .inl (cR, 6, .inl (fun _ => 0)))]) (wr := [(x, .inr (14, [.ref now, .ref fc])), (now, .inr (13, [.ref ro, .ref hto, .ref de, .ref cr, .ref co, .ref sh, .ref eo, .int 0, .int 0, .int 10, .int 100, .int 50, .int 0, .int (50 + a)]))]) (tr := []) hP hD hK [3, 2] [0, 1] [] rfl rfl rfl (by decide) (by decide) hk1 hFc
  generalize H1 = H at hP hS ⊢
  have hP : va_P (dC, dI) vwCl [(x, .inr (14, [.ref now, .ref fc])), (now, .inr (13, [.ref ro, .ref hto, .ref de, .ref cr, .ref co, .ref sh, .ref eo, .int 0, .int 0, .int 10, .int 100, .int 50, .int 0, .int (50 + a)]))] H := hP
  have hD : va_D A [(x, .inr (14, [.ref now, .ref fc])), (now, .inr (13, [.ref ro, .ref hto, .ref de, .ref cr, .ref co, .ref sh, .ref eo, .int 0, .int 0, .int 10, .int 100, .int 50, .int 0, .int (50 + a)]))] := hD
  have hK : va_K (dC, dI) vwCl [] s := hK
  refine W.widen (k := 0) (n := 0) (Nat.le_of_ble_eq_true rfl) (Nat.le_of_ble_eq_true rfl) ?_
  refine W.widen (k := 0) (n := 0) (Nat.le_of_ble_eq_true rfl) (Nat.le_of_ble_eq_true rfl) ?_
  exact W.iret (v := 0) hx hb hr (fun t ht hW => ⟨⟨0, (), rfl, rfl, trivial⟩, hS.F ht⟩) hS.2.2 dX8_addRoom_55

set_option maxHeartbeats 4000000 in
set_option maxRecDepth 100000 in
theorem c_cx_addRoom_n (l : Launch) (hst : l.stackTraces = false) (dC : Nat → ClassId) (dI : Nat → Nat → Nat) (E : Nat → Nat) (x : Nat) (a : Int32) (sz : Nat) (h : ¬ (¬ a < 0 ∧ ¬ 200 < a)) : vx_Met l yX8_addRoom wsX8_addRoom ({ frames := 7, cells := 1, slots := 6, locals := 104 }) (va_Pc [.ref x, .int a] (pre dC dI E [] [] sz)) (va_Qi (fun (_ : Int32) (_ : Unit) => False) (fun _ _ => True) (va_A [] sz)) (vx_X (fun _ : Unit => True) (fun E9 _ _ => E9 = "java/lang/IllegalArgumentException") (va_A [] sz)) 1 6 (va_A [] sz) := by
  refine vx_ofW (cc := cX8_addRoom) (maxL := 2) (ret := (some .int)) (by decide) rfl ?_
  intro p e s m args below meth c s₁ B hml htab hv
  obtain ⟨rfl, hsz, hP, hK, hD0, hE, hZ0⟩ := hv
  have hx := B.exec
  have hb := B.bytes
  have hr := B.returns
  have hts := atoms_spec (ws := wsX8_addRoom) B.pre
  have hown : s.vm.findClass RX8 = some m.cls := findClass_of_methodNamed B.named
  have hlocks := B.notSynchronized
  subst hsz
  have hD := hD0.self (sz := s.heap.size)
  generalize hAe : va_A [] s.heap.size = A at hD hZ0 ⊢
  have hZ := hZ0
  have hA : ∀ q : Nat, s.heap.size ≤ q → A q := fun q h => by rw [← hAe]; exact Or.inr h
  have hS : va_S A s.heap s.heap [] := va_S.rf
  have hP : va_P (dC, dI) vwCl [] s.heap := hP
  have hl := lv_entry ([.ref x, .int a]) (n := 2) (Nat.le_of_ble_eq_true rfl)
  rw [lg_entry_eq]
  generalize (lg_sl ([.ref x, .int a]) ++ List.replicate (2 - (lg_sl ([.ref x, .int a])).length) Slot.unset).toArray = ls at hl ⊢
  have hl : lv_has ls 2 [(0, .ref x), (1, .int a)] := hl
  refine lv_iload_n hx hb dX8_addRoom_0 rfl (lv_at hl 1 rfl) ?_
  refine lv_iconst (v := 0) hx hb dX8_addRoom_1 (by decide) ?_
  refine lv_sipush (v := 200) hx hb dX8_addRoom_2 (by decide) ?_
  have hPc := hP.sub (ws' := []) [] rfl
  have hDc := hD.sub (ws' := []) [] (by decide) rfl
  have hKc := hK.sub (tys' := []) [] rfl
  have hFc := va_free (wc := []) hD hS hA [] rfl
  refine vx_callv (vx_runS (As := [.int a, .int 0, .int 200]) (rest := []) ⟨hx, hb, hml, hown, hts⟩ (c_rqRg_n l hst dC dI E a 0 200 s.heap.size h) (va_cwS 3 hts gX8_addRoom_X8_requireRange rfl rfl rfl (by decide +kernel) ⟨(Nat.le_of_ble_eq_true rfl), (Nat.le_of_ble_eq_true rfl)⟩) ⟨pre_blind, pre_call hPc hDc hKc hFc hE hZ hS⟩ rfl rfl hl.1 rfl (lv_room (Nat.le_of_ble_eq_true rfl)) dX8_addRoom_5 ⟨(Nat.le_of_ble_eq_true rfl), (Nat.le_of_ble_eq_true rfl)⟩) hS (fun q _ h => hFc q h) hFc (fun q _ h => hFc q h) (fun E9 ce q9 u t H1 locs1 ht hvm hw hB hz1 hk1 hS hc9 hv9 hf9 => ?_) (fun u t H1 locs1 ht hvm hw hB hz1 hk1 hS => hw.elim)
  obtain rfl := hB
  exact vx_out (fun x h => (htab x h).elim) hlocks hc9 hv9 hf9 (fun t2 ht2 _ => ⟨(), trivial, rfl, hS.F ht2⟩) hS.2.2 (Nat.le_of_ble_eq_true rfl) (Nat.le_of_ble_eq_true rfl)

set_option maxHeartbeats 4000000 in
set_option maxRecDepth 100000 in
theorem c_cx_burn (l : Launch) (hst : l.stackTraces = false) (dC : Nat → ClassId) (dI : Nat → Nat → Nat) (E : Nat → Nat) (x : Nat) (now : Nat) (fc : Nat) (ro : Nat) (hto : Nat) (de : Nat) (cr : Nat) (co : Nat) (sh : Nat) (eo : Nat) (p0 : Nat) (p1 : Nat) (p2 : Nat) (p3 : Nat) (p4 : Nat) (a : Int32) (b : Int32) (sz : Nat) : vx_Met l yX8_burn wsX8_burn ({ frames := 7, cells := 1, slots := 6, locals := 103 }) (va_Pc [.ref x, .int a, .int b] (pre dC dI E [(x, .inr (14, [.ref now, .ref fc])), (now, .inr (13, [.ref ro, .ref hto, .ref de, .ref cr, .ref co, .ref sh, .ref eo, .int 0, .int 0, .int 10, .int 100, .int 50, .int 0, .int 50])), (sh, .inr (12, [.ref p0, .ref p1, .ref p2, .ref p3, .ref p4, .int 0]))] [] sz)) (va_Qi (fun (_ : Int32) (_ : Unit) => False) (fun _ _ => True) (va_A [(x, .inr (14, [.ref now, .ref fc])), (now, .inr (13, [.ref ro, .ref hto, .ref de, .ref cr, .ref co, .ref sh, .ref eo, .int 0, .int 0, .int 10, .int 100, .int 50, .int 0, .int 50])), (sh, .inr (12, [.ref p0, .ref p1, .ref p2, .ref p3, .ref p4, .int 0]))] sz)) (vx_X (fun _ : Unit => True) (fun E9 _ _ => E9 = "java/lang/IndexOutOfBoundsException") (va_A [(x, .inr (14, [.ref now, .ref fc])), (now, .inr (13, [.ref ro, .ref hto, .ref de, .ref cr, .ref co, .ref sh, .ref eo, .int 0, .int 0, .int 10, .int 100, .int 50, .int 0, .int 50])), (sh, .inr (12, [.ref p0, .ref p1, .ref p2, .ref p3, .ref p4, .int 0]))] sz)) 1 6 (va_A [(x, .inr (14, [.ref now, .ref fc])), (now, .inr (13, [.ref ro, .ref hto, .ref de, .ref cr, .ref co, .ref sh, .ref eo, .int 0, .int 0, .int 10, .int 100, .int 50, .int 0, .int 50])), (sh, .inr (12, [.ref p0, .ref p1, .ref p2, .ref p3, .ref p4, .int 0]))] sz) := by
  refine vx_ofW (cc := cX8_burn) (maxL := 4) (ret := (some .int)) (by decide) rfl ?_
  intro p e s m args below meth c s₁ B hml htab hv
  obtain ⟨rfl, hsz, hP, hK, hD0, hE, hZ0⟩ := hv
  have hx := B.exec
  have hb := B.bytes
  have hr := B.returns
  have hts := atoms_spec (ws := wsX8_burn) B.pre
  have hown : s.vm.findClass RX8 = some m.cls := findClass_of_methodNamed B.named
  have hlocks := B.notSynchronized
  subst hsz
  have hD := hD0.self (sz := s.heap.size)
  generalize hAe : va_A [(x, .inr (14, [.ref now, .ref fc])), (now, .inr (13, [.ref ro, .ref hto, .ref de, .ref cr, .ref co, .ref sh, .ref eo, .int 0, .int 0, .int 10, .int 100, .int 50, .int 0, .int 50])), (sh, .inr (12, [.ref p0, .ref p1, .ref p2, .ref p3, .ref p4, .int 0]))] s.heap.size = A at hD hZ0 ⊢
  have hZ := hZ0
  have hA : ∀ q : Nat, s.heap.size ≤ q → A q := fun q h => by rw [← hAe]; exact Or.inr h
  have hS : va_S A s.heap s.heap [] := va_S.rf
  have hP : va_P (dC, dI) vwCl [(x, .inr (14, [.ref now, .ref fc])), (now, .inr (13, [.ref ro, .ref hto, .ref de, .ref cr, .ref co, .ref sh, .ref eo, .int 0, .int 0, .int 10, .int 100, .int 50, .int 0, .int 50])), (sh, .inr (12, [.ref p0, .ref p1, .ref p2, .ref p3, .ref p4, .int 0]))] s.heap := hP
  have hl := lv_entry ([.ref x, .int a, .int b]) (n := 4) (Nat.le_of_ble_eq_true rfl)
  rw [lg_entry_eq]
  generalize (lg_sl ([.ref x, .int a, .int b]) ++ List.replicate (4 - (lg_sl ([.ref x, .int a, .int b])).length) Slot.unset).toArray = ls at hl ⊢
  have hl : lv_has ls 4 [(0, .ref x), (1, .int a), (2, .int b)] := hl
  refine lv_iload_n hx hb dX8_burn_0 rfl (lv_at hl 1 rfl) ?_
  refine lv_aload_n hx hb dX8_burn_1 rfl (lv_at hl 0 rfl) ?_
  refine va_get (D := (dC, dI)) (ci := 14) (v := .ref now) (C := RX8) (T := TX8) (N := 2) hx hb hts (by decide +kernel) hown hK hP 0 rfl rfl 0 (by decide) (hts (.fieldLink RX8 14 "Orbitdock" "now" "LOrbitdock$Station;") (by decide +kernel)) (fun _ h9 => h9) rfl dX8_burn_2 ?_
  refine va_get (D := (dC, dI)) (ci := 13) (v := .ref sh) (C := RX7) (T := TX7) (N := 14) hx hb hts (by decide +kernel) hown hK hP 1 rfl rfl 5 (by decide) (hts (.fieldLink RX8 168 "Orbitdock$Station" "ships" "LOrbitdock$Ships;") (by decide +kernel)) (fun _ h9 => h9) rfl dX8_burn_5 ?_
  refine va_get (D := (dC, dI)) (ci := 12) (v := .int 0) (C := RX6) (T := TX6) (N := 6) hx hb hts (by decide +kernel) hown hK hP 2 rfl rfl 5 (by decide) (hts (.fieldLink RX8 178 "Orbitdock$Ships" "count" "I") (by decide +kernel)) (fun _ h9 => h9) rfl dX8_burn_8 ?_
  have hPc := hP.sub (ws' := []) [] rfl
  have hDc := hD.sub (ws' := []) [] (by decide) rfl
  have hKc := hK.sub (tys' := []) [] rfl
  have hFc := va_free (wc := []) hD hS hA [] rfl
  refine vx_callv (vx_runS (As := [.int a, .int 0]) (rest := []) ⟨hx, hb, hml, hown, hts⟩ (c_rqIx l hst dC dI E a s.heap.size) (va_cwS 2 hts gX8_burn_X8_requireIndex rfl rfl rfl (by decide +kernel) ⟨(Nat.le_of_ble_eq_true rfl), (Nat.le_of_ble_eq_true rfl)⟩) ⟨pre_blind, pre_call hPc hDc hKc hFc hE hZ hS⟩ rfl rfl hl.1 rfl (lv_room (Nat.le_of_ble_eq_true rfl)) dX8_burn_11 ⟨(Nat.le_of_ble_eq_true rfl), (Nat.le_of_ble_eq_true rfl)⟩) hS (fun q _ h => hFc q h) hFc (fun q _ h => hFc q h) (fun E9 ce q9 u t H1 locs1 ht hvm hw hB hz1 hk1 hS hc9 hv9 hf9 => ?_) (fun u t H1 locs1 ht hvm hw hB hz1 hk1 hS => hw.elim)
  obtain rfl := hB
  exact vx_out (fun x h => (htab x h).elim) hlocks hc9 hv9 hf9 (fun t2 ht2 _ => ⟨(), trivial, rfl, hS.F ht2⟩) hS.2.2 (Nat.le_of_ble_eq_true rfl) (Nat.le_of_ble_eq_true rfl)

set_option maxHeartbeats 4000000 in
set_option maxRecDepth 100000 in
theorem c_cx_pass_n (l : Launch) (hst : l.stackTraces = false) (dC : Nat → ClassId) (dI : Nat → Nat → Nat) (E : Nat → Nat) (x : Nat) (a : Int32) (sz : Nat) (h : ¬ (¬ a < 1 ∧ ¬ 90 < a)) : vx_Met l yX8_pass wsX8_pass ({ frames := 7, cells := 1, slots := 6, locals := 104 }) (va_Pc [.ref x, .int a] (pre dC dI E [] [] sz)) (va_Qi (fun (_ : Int32) (_ : Unit) => False) (fun _ _ => True) (va_A [] sz)) (vx_X (fun _ : Unit => True) (fun E9 _ _ => E9 = "java/lang/IllegalArgumentException") (va_A [] sz)) 1 6 (va_A [] sz) := by
  refine vx_ofW (cc := cX8_pass) (maxL := 3) (ret := (some .int)) (by decide) rfl ?_
  intro p e s m args below meth c s₁ B hml htab hv
  obtain ⟨rfl, hsz, hP, hK, hD0, hE, hZ0⟩ := hv
  have hx := B.exec
  have hb := B.bytes
  have hr := B.returns
  have hts := atoms_spec (ws := wsX8_pass) B.pre
  have hown : s.vm.findClass RX8 = some m.cls := findClass_of_methodNamed B.named
  have hlocks := B.notSynchronized
  subst hsz
  have hD := hD0.self (sz := s.heap.size)
  generalize hAe : va_A [] s.heap.size = A at hD hZ0 ⊢
  have hZ := hZ0
  have hA : ∀ q : Nat, s.heap.size ≤ q → A q := fun q h => by rw [← hAe]; exact Or.inr h
  have hS : va_S A s.heap s.heap [] := va_S.rf
  have hP : va_P (dC, dI) vwCl [] s.heap := hP
  have hl := lv_entry ([.ref x, .int a]) (n := 3) (Nat.le_of_ble_eq_true rfl)
  rw [lg_entry_eq]
  generalize (lg_sl ([.ref x, .int a]) ++ List.replicate (3 - (lg_sl ([.ref x, .int a])).length) Slot.unset).toArray = ls at hl ⊢
  have hl : lv_has ls 3 [(0, .ref x), (1, .int a)] := hl
  refine lv_iload_n hx hb dX8_pass_0 rfl (lv_at hl 1 rfl) ?_
  refine lv_iconst (v := 1) hx hb dX8_pass_1 (by decide) ?_
  refine lv_bipush (v := 90) hx hb dX8_pass_2 (by decide) ?_
  have hPc := hP.sub (ws' := []) [] rfl
  have hDc := hD.sub (ws' := []) [] (by decide) rfl
  have hKc := hK.sub (tys' := []) [] rfl
  have hFc := va_free (wc := []) hD hS hA [] rfl
  refine vx_callv (vx_runS (As := [.int a, .int 1, .int 90]) (rest := []) ⟨hx, hb, hml, hown, hts⟩ (c_rqRg_n l hst dC dI E a 1 90 s.heap.size h) (va_cwS 3 hts gX8_pass_X8_requireRange rfl rfl rfl (by decide +kernel) ⟨(Nat.le_of_ble_eq_true rfl), (Nat.le_of_ble_eq_true rfl)⟩) ⟨pre_blind, pre_call hPc hDc hKc hFc hE hZ hS⟩ rfl rfl hl.1 rfl (lv_room (Nat.le_of_ble_eq_true rfl)) dX8_pass_4 ⟨(Nat.le_of_ble_eq_true rfl), (Nat.le_of_ble_eq_true rfl)⟩) hS (fun q _ h => hFc q h) hFc (fun q _ h => hFc q h) (fun E9 ce q9 u t H1 locs1 ht hvm hw hB hz1 hk1 hS hc9 hv9 hf9 => ?_) (fun u t H1 locs1 ht hvm hw hB hz1 hk1 hS => hw.elim)
  obtain rfl := hB
  exact vx_out (fun x h => (htab x h).elim) hlocks hc9 hv9 hf9 (fun t2 ht2 _ => ⟨(), trivial, rfl, hS.F ht2⟩) hS.2.2 (Nat.le_of_ble_eq_true rfl) (Nat.le_of_ble_eq_true rfl)

set_option maxHeartbeats 4000000 in
set_option maxRecDepth 100000 in
theorem c_cx_endSafe (l : Launch) (dC : Nat → ClassId) (dI : Nat → Nat → Nat) (E : Nat → Nat) (x : Nat) (now : Nat) (fc : Nat) (ro : Nat) (hto : Nat) (de : Nat) (cr : Nat) (co : Nat) (sh : Nat) (eo : Nat) (sz : Nat) : Met l yX8_endSafe wsX8_endSafe ({ frames := 0, cells := 0, slots := 0, locals := 0 }) (va_Pc [.ref x] (pre dC dI E [(x, .inr (14, [.ref now, .ref fc])), (now, .inr (13, [.ref ro, .ref hto, .ref de, .ref cr, .ref co, .ref sh, .ref eo, .int 0, .int 0, .int 10, .int 100, .int 50, .int 0, .int 50]))] [] sz)) (va_Qi (fun (r : Int32) (_ : Unit) => r = 0) (fun _ t => True) (va_A [(x, .inr (14, [.ref now, .ref fc])), (now, .inr (13, [.ref ro, .ref hto, .ref de, .ref cr, .ref co, .ref sh, .ref eo, .int 0, .int 0, .int 10, .int 100, .int 50, .int 0, .int 50]))] sz)) 0 0 (va_A [(x, .inr (14, [.ref now, .ref fc])), (now, .inr (13, [.ref ro, .ref hto, .ref de, .ref cr, .ref co, .ref sh, .ref eo, .int 0, .int 0, .int 10, .int 100, .int 50, .int 0, .int 50]))] sz) := by
  refine Met.ofW (cc := cX8_endSafe) (maxL := 2) (ret := (some .boolean)) (by decide) rfl ?_
  intro p e s m args below meth c s₁ B hml hv
  obtain ⟨rfl, hsz, hP, hK, hD0, hE, hZ0⟩ := hv
  have hx := B.exec
  have hb := B.bytes
  have hr := B.returns
  have hts := atoms_spec (ws := wsX8_endSafe) B.pre
  have hown : s.vm.findClass RX8 = some m.cls := findClass_of_methodNamed B.named
  have hlocks := B.notSynchronized
  subst hsz
  have hD := hD0.self (sz := s.heap.size)
  generalize hAe : va_A [(x, .inr (14, [.ref now, .ref fc])), (now, .inr (13, [.ref ro, .ref hto, .ref de, .ref cr, .ref co, .ref sh, .ref eo, .int 0, .int 0, .int 10, .int 100, .int 50, .int 0, .int 50]))] s.heap.size = A at hD hZ0 ⊢
  have hZ := hZ0
  have hA : ∀ q : Nat, s.heap.size ≤ q → A q := fun q h => by rw [← hAe]; exact Or.inr h
  have hS : va_S A s.heap s.heap [] := va_S.rf
  have hP : va_P (dC, dI) vwCl [(x, .inr (14, [.ref now, .ref fc])), (now, .inr (13, [.ref ro, .ref hto, .ref de, .ref cr, .ref co, .ref sh, .ref eo, .int 0, .int 0, .int 10, .int 100, .int 50, .int 0, .int 50]))] s.heap := hP
  have hl := lv_entry ([.ref x]) (n := 2) (Nat.le_of_ble_eq_true rfl)
  rw [lg_entry_eq]
  generalize (lg_sl ([.ref x]) ++ List.replicate (2 - (lg_sl ([.ref x])).length) Slot.unset).toArray = ls at hl ⊢
  have hl : lv_has ls 2 [(0, .ref x)] := hl
  refine lv_aload_n hx hb dX8_endSafe_0 rfl (lv_at hl 0 rfl) ?_
  refine va_get (D := (dC, dI)) (ci := 14) (v := .ref now) (C := RX8) (T := TX8) (N := 2) hx hb hts (by decide +kernel) hown hK hP 0 rfl rfl 0 (by decide) (hts (.fieldLink RX8 14 "Orbitdock" "now" "LOrbitdock$Station;") (by decide +kernel)) (fun _ h9 => h9) rfl dX8_endSafe_1 ?_
  refine va_get (D := (dC, dI)) (ci := 13) (v := .int 0) (C := RX7) (T := TX7) (N := 14) hx hb hts (by decide +kernel) hown hK hP 1 rfl rfl 8 (by decide) (hts (.fieldLink RX8 100 "Orbitdock$Station" "safe" "Z") (by decide +kernel)) (fun _ h9 => h9) rfl dX8_endSafe_4 ?_
  refine lv_istore_n (lv' := [(1, .int 0), (0, .ref x)]) hx hb dX8_endSafe_7 rfl hl (by decide) rfl (fun ls hl => ?_)
  refine lv_aload_n hx hb dX8_endSafe_8 rfl (lv_at hl 1 rfl) ?_
  refine va_get (D := (dC, dI)) (ci := 14) (v := .ref now) (C := RX8) (T := TX8) (N := 2) hx hb hts (by decide +kernel) hown hK hP 0 rfl rfl 0 (by decide) (hts (.fieldLink RX8 14 "Orbitdock" "now" "LOrbitdock$Station;") (by decide +kernel)) (fun _ h9 => h9) rfl dX8_endSafe_9 ?_
  refine lv_iconst (v := 0) hx hb dX8_endSafe_12 (by decide) ?_
  refine va_put (D := (dC, dI)) (ci := 13) (v := .int 0) (ty := .boolean) (C := RX7) (T := TX7) (N := 14) hx hb hts (by decide +kernel) tyX7 tyX7_ok nmX7 hown hK hP hD hS 1 rfl rfl 8 (by decide) (hts (.fieldLink RX8 100 "Orbitdock$Station" "safe" "Z") (by decide +kernel)) (fun _ h9 => h9) rfl (by decide +kernel) rfl rfl (Nat.le_of_ble_eq_true rfl) dX8_endSafe_13 (fun H locs hP hD hS => ?_)
  have hP : va_P (dC, dI) vwCl [(x, .inr (14, [.ref now, .ref fc])), (now, .inr (13, [.ref ro, .ref hto, .ref de, .ref cr, .ref co, .ref sh, .ref eo, .int 0, .int 0, .int 10, .int 100, .int 50, .int 0, .int 50]))] H := hP
  have hD : va_D A [(x, .inr (14, [.ref now, .ref fc])), (now, .inr (13, [.ref ro, .ref hto, .ref de, .ref cr, .ref co, .ref sh, .ref eo, .int 0, .int 0, .int 10, .int 100, .int 50, .int 0, .int 50]))] := hD
  refine lv_iload_n hx hb dX8_endSafe_16 rfl (lv_at hl 0 rfl) ?_
  refine W.widen (k := 0) (n := 0) (Nat.le_of_ble_eq_true rfl) (Nat.le_of_ble_eq_true rfl) ?_
  exact W.zret (v := 0) hx hb hr rfl (fun t ht hW => ⟨⟨0, (), rfl, rfl, trivial⟩, hS.F ht⟩) hS.2.2 dX8_endSafe_17

set_option maxHeartbeats 4000000 in
set_option maxRecDepth 100000 in
theorem c_cx_oxygen (l : Launch) (hst : l.stackTraces = false) (dC : Nat → ClassId) (dI : Nat → Nat → Nat) (E : Nat → Nat) (x : Nat) (now : Nat) (fc : Nat) (ro : Nat) (hto : Nat) (de : Nat) (cr : Nat) (co : Nat) (sh : Nat) (eo : Nat) (a0 : Nat) (a1 : Nat) (a2 : Nat) (a : Int32) (sz : Nat) : vx_Met l yX8_oxygen wsX8_oxygen ({ frames := 8, cells := 1, slots := 6, locals := 124 }) (va_Pc [.ref x, .int a] (pre dC dI E [(x, .inr (14, [.ref now, .ref fc])), (now, .inr (13, [.ref ro, .ref hto, .ref de, .ref cr, .ref co, .ref sh, .ref eo, .int 0, .int 0, .int 10, .int 100, .int 50, .int 0, .int 50])), (ro, .inr (11, [.ref a0, .ref a1, .ref a2, .int 0, .int 0]))] [] sz)) (va_Qi (fun (_ : Int32) (_ : Unit) => False) (fun _ _ => True) (va_A [(x, .inr (14, [.ref now, .ref fc])), (now, .inr (13, [.ref ro, .ref hto, .ref de, .ref cr, .ref co, .ref sh, .ref eo, .int 0, .int 0, .int 10, .int 100, .int 50, .int 0, .int 50])), (ro, .inr (11, [.ref a0, .ref a1, .ref a2, .int 0, .int 0]))] sz)) (vx_X (fun _ : Unit => True) (fun E9 _ _ => E9 = "java/lang/IndexOutOfBoundsException") (va_A [(x, .inr (14, [.ref now, .ref fc])), (now, .inr (13, [.ref ro, .ref hto, .ref de, .ref cr, .ref co, .ref sh, .ref eo, .int 0, .int 0, .int 10, .int 100, .int 50, .int 0, .int 50])), (ro, .inr (11, [.ref a0, .ref a1, .ref a2, .int 0, .int 0]))] sz)) 1 6 (va_A [(x, .inr (14, [.ref now, .ref fc])), (now, .inr (13, [.ref ro, .ref hto, .ref de, .ref cr, .ref co, .ref sh, .ref eo, .int 0, .int 0, .int 10, .int 100, .int 50, .int 0, .int 50])), (ro, .inr (11, [.ref a0, .ref a1, .ref a2, .int 0, .int 0]))] sz) := by
  refine vx_ofW (cc := cX8_oxygen) (maxL := 2) (ret := (some .int)) (by decide) rfl ?_
  intro p e s m args below meth c s₁ B hml htab hv
  obtain ⟨rfl, hsz, hP, hK, hD0, hE, hZ0⟩ := hv
  have hx := B.exec
  have hb := B.bytes
  have hr := B.returns
  have hts := atoms_spec (ws := wsX8_oxygen) B.pre
  have hown : s.vm.findClass RX8 = some m.cls := findClass_of_methodNamed B.named
  have hlocks := B.notSynchronized
  subst hsz
  have hD := hD0.self (sz := s.heap.size)
  generalize hAe : va_A [(x, .inr (14, [.ref now, .ref fc])), (now, .inr (13, [.ref ro, .ref hto, .ref de, .ref cr, .ref co, .ref sh, .ref eo, .int 0, .int 0, .int 10, .int 100, .int 50, .int 0, .int 50])), (ro, .inr (11, [.ref a0, .ref a1, .ref a2, .int 0, .int 0]))] s.heap.size = A at hD hZ0 ⊢
  have hZ := hZ0
  have hA : ∀ q : Nat, s.heap.size ≤ q → A q := fun q h => by rw [← hAe]; exact Or.inr h
  have hS : va_S A s.heap s.heap [] := va_S.rf
  have hP : va_P (dC, dI) vwCl [(x, .inr (14, [.ref now, .ref fc])), (now, .inr (13, [.ref ro, .ref hto, .ref de, .ref cr, .ref co, .ref sh, .ref eo, .int 0, .int 0, .int 10, .int 100, .int 50, .int 0, .int 50])), (ro, .inr (11, [.ref a0, .ref a1, .ref a2, .int 0, .int 0]))] s.heap := hP
  have hl := lv_entry ([.ref x, .int a]) (n := 2) (Nat.le_of_ble_eq_true rfl)
  rw [lg_entry_eq]
  generalize (lg_sl ([.ref x, .int a]) ++ List.replicate (2 - (lg_sl ([.ref x, .int a])).length) Slot.unset).toArray = ls at hl ⊢
  have hl : lv_has ls 2 [(0, .ref x), (1, .int a)] := hl
  refine lv_aload_n hx hb dX8_oxygen_0 rfl (lv_at hl 0 rfl) ?_
  refine lv_iload_n hx hb dX8_oxygen_1 rfl (lv_at hl 1 rfl) ?_
  have hPc := hP.sub (ws' := [(x, .inr (14, [.ref now, .ref fc])), (now, .inr (13, [.ref ro, .ref hto, .ref de, .ref cr, .ref co, .ref sh, .ref eo, .int 0, .int 0, .int 10, .int 100, .int 50, .int 0, .int 50])), (ro, .inr (11, [.ref a0, .ref a1, .ref a2, .int 0, .int 0]))]) [0, 1, 2] rfl
  have hDc := hD.sub (ws' := [(x, .inr (14, [.ref now, .ref fc])), (now, .inr (13, [.ref ro, .ref hto, .ref de, .ref cr, .ref co, .ref sh, .ref eo, .int 0, .int 0, .int 10, .int 100, .int 50, .int 0, .int 50])), (ro, .inr (11, [.ref a0, .ref a1, .ref a2, .int 0, .int 0]))]) [0, 1, 2] (by decide) rfl
  have hKc := hK.sub (tys' := []) [] rfl
  have hFc := va_free (wc := [(x, .inr (14, [.ref now, .ref fc])), (now, .inr (13, [.ref ro, .ref hto, .ref de, .ref cr, .ref co, .ref sh, .ref eo, .int 0, .int 0, .int 10, .int 100, .int 50, .int 0, .int 50])), (ro, .inr (11, [.ref a0, .ref a1, .ref a2, .int 0, .int 0]))]) hD hS hA [0, 1, 2] rfl
  refine vx_callv (vx_runV (As := [.int a]) (rest := []) ⟨hx, hb, hml, hown, hts⟩ (c_cx_requireRoom l hst dC dI E x now fc ro hto de cr co sh eo a0 a1 a2 a s.heap.size) (cwV 1 hts gX8_oxygen_X8_requireRoom rfl rfl rfl (by decide +kernel) ⟨(Nat.le_of_ble_eq_true rfl), (Nat.le_of_ble_eq_true rfl)⟩) ⟨pre_blind, va_recv hKc hPc (ci := 14) (q0 := 0) rfl rfl, pre_call hPc hDc hKc hFc hE hZ hS⟩ rfl rfl hl.1 rfl (lv_room (Nat.le_of_ble_eq_true rfl)) dX8_oxygen_2 ⟨(Nat.le_of_ble_eq_true rfl), (Nat.le_of_ble_eq_true rfl)⟩) hS (fun q _ h => hFc q h) hFc (fun q _ h => hFc q h) (fun E9 ce q9 u t H1 locs1 ht hvm hw hB hz1 hk1 hS hc9 hv9 hf9 => ?_) (fun u t H1 locs1 ht hvm hw hB hz1 hk1 hS => hw.elim)
  obtain rfl := hB
  exact vx_out (fun x h => (htab x h).elim) hlocks hc9 hv9 hf9 (fun t2 ht2 _ => ⟨(), trivial, rfl, hS.F ht2⟩) hS.2.2 (Nat.le_of_ble_eq_true rfl) (Nat.le_of_ble_eq_true rfl)

set_option maxHeartbeats 4000000 in
set_option maxRecDepth 100000 in
theorem c_cx_carbon (l : Launch) (hst : l.stackTraces = false) (dC : Nat → ClassId) (dI : Nat → Nat → Nat) (E : Nat → Nat) (x : Nat) (now : Nat) (fc : Nat) (ro : Nat) (hto : Nat) (de : Nat) (cr : Nat) (co : Nat) (sh : Nat) (eo : Nat) (a0 : Nat) (a1 : Nat) (a2 : Nat) (a : Int32) (sz : Nat) : vx_Met l yX8_carbon wsX8_carbon ({ frames := 8, cells := 1, slots := 6, locals := 124 }) (va_Pc [.ref x, .int a] (pre dC dI E [(x, .inr (14, [.ref now, .ref fc])), (now, .inr (13, [.ref ro, .ref hto, .ref de, .ref cr, .ref co, .ref sh, .ref eo, .int 0, .int 0, .int 10, .int 100, .int 50, .int 0, .int 50])), (ro, .inr (11, [.ref a0, .ref a1, .ref a2, .int 0, .int 0]))] [] sz)) (va_Qi (fun (_ : Int32) (_ : Unit) => False) (fun _ _ => True) (va_A [(x, .inr (14, [.ref now, .ref fc])), (now, .inr (13, [.ref ro, .ref hto, .ref de, .ref cr, .ref co, .ref sh, .ref eo, .int 0, .int 0, .int 10, .int 100, .int 50, .int 0, .int 50])), (ro, .inr (11, [.ref a0, .ref a1, .ref a2, .int 0, .int 0]))] sz)) (vx_X (fun _ : Unit => True) (fun E9 _ _ => E9 = "java/lang/IndexOutOfBoundsException") (va_A [(x, .inr (14, [.ref now, .ref fc])), (now, .inr (13, [.ref ro, .ref hto, .ref de, .ref cr, .ref co, .ref sh, .ref eo, .int 0, .int 0, .int 10, .int 100, .int 50, .int 0, .int 50])), (ro, .inr (11, [.ref a0, .ref a1, .ref a2, .int 0, .int 0]))] sz)) 1 6 (va_A [(x, .inr (14, [.ref now, .ref fc])), (now, .inr (13, [.ref ro, .ref hto, .ref de, .ref cr, .ref co, .ref sh, .ref eo, .int 0, .int 0, .int 10, .int 100, .int 50, .int 0, .int 50])), (ro, .inr (11, [.ref a0, .ref a1, .ref a2, .int 0, .int 0]))] sz) := by
  refine vx_ofW (cc := cX8_carbon) (maxL := 2) (ret := (some .int)) (by decide) rfl ?_
  intro p e s m args below meth c s₁ B hml htab hv
  obtain ⟨rfl, hsz, hP, hK, hD0, hE, hZ0⟩ := hv
  have hx := B.exec
  have hb := B.bytes
  have hr := B.returns
  have hts := atoms_spec (ws := wsX8_carbon) B.pre
  have hown : s.vm.findClass RX8 = some m.cls := findClass_of_methodNamed B.named
  have hlocks := B.notSynchronized
  subst hsz
  have hD := hD0.self (sz := s.heap.size)
  generalize hAe : va_A [(x, .inr (14, [.ref now, .ref fc])), (now, .inr (13, [.ref ro, .ref hto, .ref de, .ref cr, .ref co, .ref sh, .ref eo, .int 0, .int 0, .int 10, .int 100, .int 50, .int 0, .int 50])), (ro, .inr (11, [.ref a0, .ref a1, .ref a2, .int 0, .int 0]))] s.heap.size = A at hD hZ0 ⊢
  have hZ := hZ0
  have hA : ∀ q : Nat, s.heap.size ≤ q → A q := fun q h => by rw [← hAe]; exact Or.inr h
  have hS : va_S A s.heap s.heap [] := va_S.rf
  have hP : va_P (dC, dI) vwCl [(x, .inr (14, [.ref now, .ref fc])), (now, .inr (13, [.ref ro, .ref hto, .ref de, .ref cr, .ref co, .ref sh, .ref eo, .int 0, .int 0, .int 10, .int 100, .int 50, .int 0, .int 50])), (ro, .inr (11, [.ref a0, .ref a1, .ref a2, .int 0, .int 0]))] s.heap := hP
  have hl := lv_entry ([.ref x, .int a]) (n := 2) (Nat.le_of_ble_eq_true rfl)
  rw [lg_entry_eq]
  generalize (lg_sl ([.ref x, .int a]) ++ List.replicate (2 - (lg_sl ([.ref x, .int a])).length) Slot.unset).toArray = ls at hl ⊢
  have hl : lv_has ls 2 [(0, .ref x), (1, .int a)] := hl
  refine lv_aload_n hx hb dX8_carbon_0 rfl (lv_at hl 0 rfl) ?_
  refine lv_iload_n hx hb dX8_carbon_1 rfl (lv_at hl 1 rfl) ?_
  have hPc := hP.sub (ws' := [(x, .inr (14, [.ref now, .ref fc])), (now, .inr (13, [.ref ro, .ref hto, .ref de, .ref cr, .ref co, .ref sh, .ref eo, .int 0, .int 0, .int 10, .int 100, .int 50, .int 0, .int 50])), (ro, .inr (11, [.ref a0, .ref a1, .ref a2, .int 0, .int 0]))]) [0, 1, 2] rfl
  have hDc := hD.sub (ws' := [(x, .inr (14, [.ref now, .ref fc])), (now, .inr (13, [.ref ro, .ref hto, .ref de, .ref cr, .ref co, .ref sh, .ref eo, .int 0, .int 0, .int 10, .int 100, .int 50, .int 0, .int 50])), (ro, .inr (11, [.ref a0, .ref a1, .ref a2, .int 0, .int 0]))]) [0, 1, 2] (by decide) rfl
  have hKc := hK.sub (tys' := []) [] rfl
  have hFc := va_free (wc := [(x, .inr (14, [.ref now, .ref fc])), (now, .inr (13, [.ref ro, .ref hto, .ref de, .ref cr, .ref co, .ref sh, .ref eo, .int 0, .int 0, .int 10, .int 100, .int 50, .int 0, .int 50])), (ro, .inr (11, [.ref a0, .ref a1, .ref a2, .int 0, .int 0]))]) hD hS hA [0, 1, 2] rfl
  refine vx_callv (vx_runV (As := [.int a]) (rest := []) ⟨hx, hb, hml, hown, hts⟩ (c_cx_requireRoom l hst dC dI E x now fc ro hto de cr co sh eo a0 a1 a2 a s.heap.size) (cwV 1 hts gX8_carbon_X8_requireRoom rfl rfl rfl (by decide +kernel) ⟨(Nat.le_of_ble_eq_true rfl), (Nat.le_of_ble_eq_true rfl)⟩) ⟨pre_blind, va_recv hKc hPc (ci := 14) (q0 := 0) rfl rfl, pre_call hPc hDc hKc hFc hE hZ hS⟩ rfl rfl hl.1 rfl (lv_room (Nat.le_of_ble_eq_true rfl)) dX8_carbon_2 ⟨(Nat.le_of_ble_eq_true rfl), (Nat.le_of_ble_eq_true rfl)⟩) hS (fun q _ h => hFc q h) hFc (fun q _ h => hFc q h) (fun E9 ce q9 u t H1 locs1 ht hvm hw hB hz1 hk1 hS hc9 hv9 hf9 => ?_) (fun u t H1 locs1 ht hvm hw hB hz1 hk1 hS => hw.elim)
  obtain rfl := hB
  exact vx_out (fun x h => (htab x h).elim) hlocks hc9 hv9 hf9 (fun t2 ht2 _ => ⟨(), trivial, rfl, hS.F ht2⟩) hS.2.2 (Nat.le_of_ble_eq_true rfl) (Nat.le_of_ble_eq_true rfl)

set_option maxHeartbeats 4000000 in
set_option maxRecDepth 100000 in
theorem c_cx_water (l : Launch) (dC : Nat → ClassId) (dI : Nat → Nat → Nat) (E : Nat → Nat) (x : Nat) (now : Nat) (fc : Nat) (ro : Nat) (hto : Nat) (de : Nat) (cr : Nat) (co : Nat) (sh : Nat) (eo : Nat) (sz : Nat) : Met l yX8_water wsX8_water ({ frames := 0, cells := 0, slots := 0, locals := 0 }) (va_Pc [.ref x] (pre dC dI E [(x, .inr (14, [.ref now, .ref fc])), (now, .inr (13, [.ref ro, .ref hto, .ref de, .ref cr, .ref co, .ref sh, .ref eo, .int 0, .int 0, .int 10, .int 100, .int 50, .int 0, .int 50]))] [] sz)) (va_Qi (fun (r : Int32) (_ : Unit) => r = 50) (fun _ t => True) (va_A [(x, .inr (14, [.ref now, .ref fc])), (now, .inr (13, [.ref ro, .ref hto, .ref de, .ref cr, .ref co, .ref sh, .ref eo, .int 0, .int 0, .int 10, .int 100, .int 50, .int 0, .int 50]))] sz)) 0 0 (va_A [(x, .inr (14, [.ref now, .ref fc])), (now, .inr (13, [.ref ro, .ref hto, .ref de, .ref cr, .ref co, .ref sh, .ref eo, .int 0, .int 0, .int 10, .int 100, .int 50, .int 0, .int 50]))] sz) := by
  refine Met.ofW (cc := cX8_water) (maxL := 1) (ret := (some .int)) (by decide) rfl ?_
  intro p e s m args below meth c s₁ B hml hv
  obtain ⟨rfl, hsz, hP, hK, hD0, hE, hZ0⟩ := hv
  have hx := B.exec
  have hb := B.bytes
  have hr := B.returns
  have hts := atoms_spec (ws := wsX8_water) B.pre
  have hown : s.vm.findClass RX8 = some m.cls := findClass_of_methodNamed B.named
  have hlocks := B.notSynchronized
  subst hsz
  have hD := hD0.self (sz := s.heap.size)
  generalize hAe : va_A [(x, .inr (14, [.ref now, .ref fc])), (now, .inr (13, [.ref ro, .ref hto, .ref de, .ref cr, .ref co, .ref sh, .ref eo, .int 0, .int 0, .int 10, .int 100, .int 50, .int 0, .int 50]))] s.heap.size = A at hD hZ0 ⊢
  have hZ := hZ0
  have hA : ∀ q : Nat, s.heap.size ≤ q → A q := fun q h => by rw [← hAe]; exact Or.inr h
  have hS : va_S A s.heap s.heap [] := va_S.rf
  have hP : va_P (dC, dI) vwCl [(x, .inr (14, [.ref now, .ref fc])), (now, .inr (13, [.ref ro, .ref hto, .ref de, .ref cr, .ref co, .ref sh, .ref eo, .int 0, .int 0, .int 10, .int 100, .int 50, .int 0, .int 50]))] s.heap := hP
  have hl := lv_entry ([.ref x]) (n := 1) (Nat.le_of_ble_eq_true rfl)
  rw [lg_entry_eq]
  generalize (lg_sl ([.ref x]) ++ List.replicate (1 - (lg_sl ([.ref x])).length) Slot.unset).toArray = ls at hl ⊢
  have hl : lv_has ls 1 [(0, .ref x)] := hl
  refine lv_aload_n hx hb dX8_water_0 rfl (lv_at hl 0 rfl) ?_
  refine va_get (D := (dC, dI)) (ci := 14) (v := .ref now) (C := RX8) (T := TX8) (N := 2) hx hb hts (by decide +kernel) hown hK hP 0 rfl rfl 0 (by decide) (hts (.fieldLink RX8 14 "Orbitdock" "now" "LOrbitdock$Station;") (by decide +kernel)) (fun _ h9 => h9) rfl dX8_water_1 ?_
  refine va_get (D := (dC, dI)) (ci := 13) (v := .int 50) (C := RX7) (T := TX7) (N := 14) hx hb hts (by decide +kernel) hown hK hP 1 rfl rfl 11 (by decide) (hts (.fieldLink RX8 211 "Orbitdock$Station" "tank" "I") (by decide +kernel)) (fun _ h9 => h9) rfl dX8_water_4 ?_
  refine W.widen (k := 0) (n := 0) (Nat.le_of_ble_eq_true rfl) (Nat.le_of_ble_eq_true rfl) ?_
  exact W.iret (v := 50) hx hb hr (fun t ht hW => ⟨⟨50, (), rfl, rfl, trivial⟩, hS.F ht⟩) hS.2.2 dX8_water_7

set_option maxHeartbeats 4000000 in
set_option maxRecDepth 100000 in
theorem c_cx_battery (l : Launch) (dC : Nat → ClassId) (dI : Nat → Nat → Nat) (E : Nat → Nat) (x : Nat) (now : Nat) (fc : Nat) (ro : Nat) (hto : Nat) (de : Nat) (cr : Nat) (co : Nat) (sh : Nat) (eo : Nat) (sz : Nat) : Met l yX8_battery wsX8_battery ({ frames := 0, cells := 0, slots := 0, locals := 0 }) (va_Pc [.ref x] (pre dC dI E [(x, .inr (14, [.ref now, .ref fc])), (now, .inr (13, [.ref ro, .ref hto, .ref de, .ref cr, .ref co, .ref sh, .ref eo, .int 0, .int 0, .int 10, .int 100, .int 50, .int 0, .int 50]))] [] sz)) (va_Qi (fun (r : Int32) (_ : Unit) => r = 100) (fun _ t => True) (va_A [(x, .inr (14, [.ref now, .ref fc])), (now, .inr (13, [.ref ro, .ref hto, .ref de, .ref cr, .ref co, .ref sh, .ref eo, .int 0, .int 0, .int 10, .int 100, .int 50, .int 0, .int 50]))] sz)) 0 0 (va_A [(x, .inr (14, [.ref now, .ref fc])), (now, .inr (13, [.ref ro, .ref hto, .ref de, .ref cr, .ref co, .ref sh, .ref eo, .int 0, .int 0, .int 10, .int 100, .int 50, .int 0, .int 50]))] sz) := by
  refine Met.ofW (cc := cX8_battery) (maxL := 1) (ret := (some .int)) (by decide) rfl ?_
  intro p e s m args below meth c s₁ B hml hv
  obtain ⟨rfl, hsz, hP, hK, hD0, hE, hZ0⟩ := hv
  have hx := B.exec
  have hb := B.bytes
  have hr := B.returns
  have hts := atoms_spec (ws := wsX8_battery) B.pre
  have hown : s.vm.findClass RX8 = some m.cls := findClass_of_methodNamed B.named
  have hlocks := B.notSynchronized
  subst hsz
  have hD := hD0.self (sz := s.heap.size)
  generalize hAe : va_A [(x, .inr (14, [.ref now, .ref fc])), (now, .inr (13, [.ref ro, .ref hto, .ref de, .ref cr, .ref co, .ref sh, .ref eo, .int 0, .int 0, .int 10, .int 100, .int 50, .int 0, .int 50]))] s.heap.size = A at hD hZ0 ⊢
  have hZ := hZ0
  have hA : ∀ q : Nat, s.heap.size ≤ q → A q := fun q h => by rw [← hAe]; exact Or.inr h
  have hS : va_S A s.heap s.heap [] := va_S.rf
  have hP : va_P (dC, dI) vwCl [(x, .inr (14, [.ref now, .ref fc])), (now, .inr (13, [.ref ro, .ref hto, .ref de, .ref cr, .ref co, .ref sh, .ref eo, .int 0, .int 0, .int 10, .int 100, .int 50, .int 0, .int 50]))] s.heap := hP
  have hl := lv_entry ([.ref x]) (n := 1) (Nat.le_of_ble_eq_true rfl)
  rw [lg_entry_eq]
  generalize (lg_sl ([.ref x]) ++ List.replicate (1 - (lg_sl ([.ref x])).length) Slot.unset).toArray = ls at hl ⊢
  have hl : lv_has ls 1 [(0, .ref x)] := hl
  refine lv_aload_n hx hb dX8_battery_0 rfl (lv_at hl 0 rfl) ?_
  refine va_get (D := (dC, dI)) (ci := 14) (v := .ref now) (C := RX8) (T := TX8) (N := 2) hx hb hts (by decide +kernel) hown hK hP 0 rfl rfl 0 (by decide) (hts (.fieldLink RX8 14 "Orbitdock" "now" "LOrbitdock$Station;") (by decide +kernel)) (fun _ h9 => h9) rfl dX8_battery_1 ?_
  refine va_get (D := (dC, dI)) (ci := 13) (v := .int 100) (C := RX7) (T := TX7) (N := 14) hx hb hts (by decide +kernel) hown hK hP 1 rfl rfl 10 (by decide) (hts (.fieldLink RX8 214 "Orbitdock$Station" "battery" "I") (by decide +kernel)) (fun _ h9 => h9) rfl dX8_battery_4 ?_
  refine W.widen (k := 0) (n := 0) (Nat.le_of_ble_eq_true rfl) (Nat.le_of_ble_eq_true rfl) ?_
  exact W.iret (v := 100) hx hb hr (fun t ht hW => ⟨⟨100, (), rfl, rfl, trivial⟩, hS.F ht⟩) hS.2.2 dX8_battery_7

set_option maxHeartbeats 4000000 in
set_option maxRecDepth 100000 in
theorem c_cx_whereIs (l : Launch) (hst : l.stackTraces = false) (dC : Nat → ClassId) (dI : Nat → Nat → Nat) (E : Nat → Nat) (x : Nat) (now : Nat) (fc : Nat) (ro : Nat) (hto : Nat) (de : Nat) (cr : Nat) (co : Nat) (sh : Nat) (eo : Nat) (w0 : Nat) (w1 : Nat) (w2 : Nat) (w3 : Nat) (a : Int32) (sz : Nat) : vx_Met l yX8_whereIs wsX8_whereIs ({ frames := 7, cells := 1, slots := 6, locals := 103 }) (va_Pc [.ref x, .int a] (pre dC dI E [(x, .inr (14, [.ref now, .ref fc])), (now, .inr (13, [.ref ro, .ref hto, .ref de, .ref cr, .ref co, .ref sh, .ref eo, .int 0, .int 0, .int 10, .int 100, .int 50, .int 0, .int 50])), (cr, .inr (7, [.ref w0, .ref w1, .ref w2, .ref w3, .int 0, .int 0]))] [] sz)) (va_Qi (fun (_ : Int32) (_ : Unit) => False) (fun _ _ => True) (va_A [(x, .inr (14, [.ref now, .ref fc])), (now, .inr (13, [.ref ro, .ref hto, .ref de, .ref cr, .ref co, .ref sh, .ref eo, .int 0, .int 0, .int 10, .int 100, .int 50, .int 0, .int 50])), (cr, .inr (7, [.ref w0, .ref w1, .ref w2, .ref w3, .int 0, .int 0]))] sz)) (vx_X (fun _ : Unit => True) (fun E9 _ _ => E9 = "java/lang/IndexOutOfBoundsException") (va_A [(x, .inr (14, [.ref now, .ref fc])), (now, .inr (13, [.ref ro, .ref hto, .ref de, .ref cr, .ref co, .ref sh, .ref eo, .int 0, .int 0, .int 10, .int 100, .int 50, .int 0, .int 50])), (cr, .inr (7, [.ref w0, .ref w1, .ref w2, .ref w3, .int 0, .int 0]))] sz)) 1 6 (va_A [(x, .inr (14, [.ref now, .ref fc])), (now, .inr (13, [.ref ro, .ref hto, .ref de, .ref cr, .ref co, .ref sh, .ref eo, .int 0, .int 0, .int 10, .int 100, .int 50, .int 0, .int 50])), (cr, .inr (7, [.ref w0, .ref w1, .ref w2, .ref w3, .int 0, .int 0]))] sz) := by
  refine vx_ofW (cc := cX8_whereIs) (maxL := 2) (ret := (some .int)) (by decide) rfl ?_
  intro p e s m args below meth c s₁ B hml htab hv
  obtain ⟨rfl, hsz, hP, hK, hD0, hE, hZ0⟩ := hv
  have hx := B.exec
  have hb := B.bytes
  have hr := B.returns
  have hts := atoms_spec (ws := wsX8_whereIs) B.pre
  have hown : s.vm.findClass RX8 = some m.cls := findClass_of_methodNamed B.named
  have hlocks := B.notSynchronized
  subst hsz
  have hD := hD0.self (sz := s.heap.size)
  generalize hAe : va_A [(x, .inr (14, [.ref now, .ref fc])), (now, .inr (13, [.ref ro, .ref hto, .ref de, .ref cr, .ref co, .ref sh, .ref eo, .int 0, .int 0, .int 10, .int 100, .int 50, .int 0, .int 50])), (cr, .inr (7, [.ref w0, .ref w1, .ref w2, .ref w3, .int 0, .int 0]))] s.heap.size = A at hD hZ0 ⊢
  have hZ := hZ0
  have hA : ∀ q : Nat, s.heap.size ≤ q → A q := fun q h => by rw [← hAe]; exact Or.inr h
  have hS : va_S A s.heap s.heap [] := va_S.rf
  have hP : va_P (dC, dI) vwCl [(x, .inr (14, [.ref now, .ref fc])), (now, .inr (13, [.ref ro, .ref hto, .ref de, .ref cr, .ref co, .ref sh, .ref eo, .int 0, .int 0, .int 10, .int 100, .int 50, .int 0, .int 50])), (cr, .inr (7, [.ref w0, .ref w1, .ref w2, .ref w3, .int 0, .int 0]))] s.heap := hP
  have hl := lv_entry ([.ref x, .int a]) (n := 2) (Nat.le_of_ble_eq_true rfl)
  rw [lg_entry_eq]
  generalize (lg_sl ([.ref x, .int a]) ++ List.replicate (2 - (lg_sl ([.ref x, .int a])).length) Slot.unset).toArray = ls at hl ⊢
  have hl : lv_has ls 2 [(0, .ref x), (1, .int a)] := hl
  refine lv_iload_n hx hb dX8_whereIs_0 rfl (lv_at hl 1 rfl) ?_
  refine lv_aload_n hx hb dX8_whereIs_1 rfl (lv_at hl 0 rfl) ?_
  refine va_get (D := (dC, dI)) (ci := 14) (v := .ref now) (C := RX8) (T := TX8) (N := 2) hx hb hts (by decide +kernel) hown hK hP 0 rfl rfl 0 (by decide) (hts (.fieldLink RX8 14 "Orbitdock" "now" "LOrbitdock$Station;") (by decide +kernel)) (fun _ h9 => h9) rfl dX8_whereIs_2 ?_
  refine va_get (D := (dC, dI)) (ci := 13) (v := .ref cr) (C := RX7) (T := TX7) (N := 14) hx hb hts (by decide +kernel) hown hK hP 1 rfl rfl 3 (by decide) (hts (.fieldLink RX8 119 "Orbitdock$Station" "crew" "LOrbitdock$Crew;") (by decide +kernel)) (fun _ h9 => h9) rfl dX8_whereIs_5 ?_
  refine va_get (D := (dC, dI)) (ci := 7) (v := .int 0) (C := RX1) (T := TX1) (N := 6) hx hb hts (by decide +kernel) hown hK hP 2 rfl rfl 4 (by decide) (hts (.fieldLink RX8 129 "Orbitdock$Crew" "count" "I") (by decide +kernel)) (fun _ h9 => h9) rfl dX8_whereIs_8 ?_
  have hPc := hP.sub (ws' := []) [] rfl
  have hDc := hD.sub (ws' := []) [] (by decide) rfl
  have hKc := hK.sub (tys' := []) [] rfl
  have hFc := va_free (wc := []) hD hS hA [] rfl
  refine vx_callv (vx_runS (As := [.int a, .int 0]) (rest := []) ⟨hx, hb, hml, hown, hts⟩ (c_rqIx l hst dC dI E a s.heap.size) (va_cwS 2 hts gX8_whereIs_X8_requireIndex rfl rfl rfl (by decide +kernel) ⟨(Nat.le_of_ble_eq_true rfl), (Nat.le_of_ble_eq_true rfl)⟩) ⟨pre_blind, pre_call hPc hDc hKc hFc hE hZ hS⟩ rfl rfl hl.1 rfl (lv_room (Nat.le_of_ble_eq_true rfl)) dX8_whereIs_11 ⟨(Nat.le_of_ble_eq_true rfl), (Nat.le_of_ble_eq_true rfl)⟩) hS (fun q _ h => hFc q h) hFc (fun q _ h => hFc q h) (fun E9 ce q9 u t H1 locs1 ht hvm hw hB hz1 hk1 hS hc9 hv9 hf9 => ?_) (fun u t H1 locs1 ht hvm hw hB hz1 hk1 hS => hw.elim)
  obtain rfl := hB
  exact vx_out (fun x h => (htab x h).elim) hlocks hc9 hv9 hf9 (fun t2 ht2 _ => ⟨(), trivial, rfl, hS.F ht2⟩) hS.2.2 (Nat.le_of_ble_eq_true rfl) (Nat.le_of_ble_eq_true rfl)

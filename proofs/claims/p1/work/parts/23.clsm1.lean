set_option maxHeartbeats 4000000 in
set_option maxRecDepth 100000 in
theorem c_rqIx (l : Launch) (hst : l.stackTraces = false) (dC : Nat → ClassId) (dI : Nat → Nat → Nat) (E : Nat → Nat) (i : Int32) (sz : Nat) : vx_Met l yX8_requireIndex wsX8_requireIndex ({ frames := 6, cells := 1, slots := 6, locals := 82 }) (va_Pc [.int i, .int 0] (pre dC dI E [] [] sz)) (va_Qv (fun (_ : Unit) => False) (fun _ _ => True) (va_A [] sz)) (vx_X (fun _ : Unit => True) (fun E9 _ _ => E9 = "java/lang/IndexOutOfBoundsException") (va_A [] sz)) 1 6 (va_A [] sz) := by
  refine vx_ofW (cc := cX8_requireIndex) (maxL := 2) (ret := none) (by decide) rfl ?_
  intro p e s m args below meth c s₁ B hml htab hv
  obtain ⟨rfl, hsz, hP, hK, hD0, hE, hZ0⟩ := hv
  have hx := B.exec
  have hb := B.bytes
  have hr := B.returns
  have hts := atoms_spec (ws := wsX8_requireIndex) B.pre
  have hown : s.vm.findClass RX8 = some m.cls := findClass_of_methodNamed B.named
  have hlocks := B.notSynchronized
  subst hsz
  have hD := hD0.self (sz := s.heap.size)
  generalize hAe : va_A [] s.heap.size = A at hD hZ0 ⊢
  have hZ := hZ0
  have hA : ∀ q : Nat, s.heap.size ≤ q → A q := fun q h => by rw [← hAe]; exact Or.inr h
  have hS : va_S A s.heap s.heap [] := va_S.rf
  have hP : va_P (dC, dI) vwCl [] s.heap := hP
  have hl := lv_entry ([.int i, .int 0]) (n := 2) (Nat.le_of_ble_eq_true rfl)
  rw [lg_entry_eq]
  generalize (lg_sl ([.int i, .int 0]) ++ List.replicate (2 - (lg_sl ([.int i, .int 0])).length) Slot.unset).toArray = ls at hl ⊢
  have hl : lv_has ls 2 [(0, .int i), (1, .int 0)] := hl
  refine lv_iload_n hx hb dX8_requireIndex_0 rfl (lv_at hl 0 rfl) ?_
  refine lv_if_lt (tgt := 9) hx hb dX8_requireIndex_1 (by decide) (fun c_1 => ?_) (fun c_1 => ?_)
  · have hat : ∀ w ∈ vx_atS RX8 281 "java/lang/IndexOutOfBoundsException" ["java/lang/RuntimeException", "java/lang/Exception"], w.before ([.int i, .int 0] : List Value).toArray s = true := vx_hat (B := xB "java/lang/IndexOutOfBoundsException") (fun w h => hts w (List.mem_cons_of_mem _ (List.mem_append_right _ h))) (by decide +kernel) (xB_ok hE hE.2.2.1.2.2.1)
    exact vx_throwSW (own := RX8) (cls := "java/lang/IndexOutOfBoundsException") (text := "no such numbe\x72") (names := ["java/lang/RuntimeException", "java/lang/Exception"]) (A := A) hx hb hst hown (by decide +kernel) (by decide +kernel) (hts (.classLink RX8 277 "java/lang/IndexOutOfBoundsException") (by decide +kernel)) (hts (.initialized "java/lang/IndexOutOfBoundsException") (by decide +kernel)) hE.2.1.1 hat (by decide +kernel) hZ.2.1.1 hZ.2.1.2 hS (by rw [hml]; exact hl.1) dX8_requireIndex_9 dX8_requireIndex_12 dX8_requireIndex_13 dX8_requireIndex_16 dX8_requireIndex_19 (fun x h => (htab x h).elim) (Nat.le_of_ble_eq_true rfl) (Nat.le_of_ble_eq_true rfl) (Nat.le_of_ble_eq_true rfl) (Nat.le_of_ble_eq_true rfl) hlocks (fun t hv hz hq => ⟨(), trivial, rfl, ⟨Nat.le_trans hS.1 hz, fun q h1 h2 => (hq q (Nat.lt_of_lt_of_le h1 hS.1)).trans (hS.2.1 q h1 h2)⟩⟩) hS.2.2 (Nat.le_of_ble_eq_true rfl) (Nat.le_of_ble_eq_true rfl)
  · refine lv_iload_n hx hb dX8_requireIndex_4 rfl (lv_at hl 0 rfl) ?_
    refine lv_iload_n hx hb dX8_requireIndex_5 rfl (lv_at hl 1 rfl) ?_
    refine lv_icmp_lt (tgt := 20) hx hb dX8_requireIndex_6 (by decide) (fun c9 => (c_1 c9).elim) (fun c_2 => ?_)
    have hat : ∀ w ∈ vx_atS RX8 281 "java/lang/IndexOutOfBoundsException" ["java/lang/RuntimeException", "java/lang/Exception"], w.before ([.int i, .int 0] : List Value).toArray s = true := vx_hat (B := xB "java/lang/IndexOutOfBoundsException") (fun w h => hts w (List.mem_cons_of_mem _ (List.mem_append_right _ h))) (by decide +kernel) (xB_ok hE hE.2.2.1.2.2.1)
    exact vx_throwSW (own := RX8) (cls := "java/lang/IndexOutOfBoundsException") (text := "no such numbe\x72") (names := ["java/lang/RuntimeException", "java/lang/Exception"]) (A := A) hx hb hst hown (by decide +kernel) (by decide +kernel) (hts (.classLink RX8 277 "java/lang/IndexOutOfBoundsException") (by decide +kernel)) (hts (.initialized "java/lang/IndexOutOfBoundsException") (by decide +kernel)) hE.2.1.1 hat (by decide +kernel) hZ.2.1.1 hZ.2.1.2 hS (by rw [hml]; exact hl.1) dX8_requireIndex_9 dX8_requireIndex_12 dX8_requireIndex_13 dX8_requireIndex_16 dX8_requireIndex_19 (fun x h => (htab x h).elim) (Nat.le_of_ble_eq_true rfl) (Nat.le_of_ble_eq_true rfl) (Nat.le_of_ble_eq_true rfl) (Nat.le_of_ble_eq_true rfl) hlocks (fun t hv hz hq => ⟨(), trivial, rfl, ⟨Nat.le_trans hS.1 hz, fun q h1 h2 => (hq q (Nat.lt_of_lt_of_le h1 hS.1)).trans (hS.2.1 q h1 h2)⟩⟩) hS.2.2 (Nat.le_of_ble_eq_true rfl) (Nat.le_of_ble_eq_true rfl)

set_option maxHeartbeats 4000000 in
set_option maxRecDepth 100000 in
theorem c_rqRg_y (l : Launch) (dC : Nat → ClassId) (dI : Nat → Nat → Nat) (E : Nat → Nat) (v : Int32) (lo : Int32) (hi : Int32) (sz : Nat) (hla : ¬ v < lo) (hua : ¬ hi < v) : Met l yX8_requireRange wsX8_requireRange ({ frames := 0, cells := 0, slots := 0, locals := 0 }) (va_Pc [.int v, .int lo, .int hi] (pre dC dI E [] [] sz)) (va_Qv (fun _ : Unit => True) (fun _ t => pst dC dI (va_A [] sz) [] [] t) (va_A [] sz)) 0 0 (va_A [] sz) := by
  refine Met.ofW (cc := cX8_requireRange) (maxL := 3) (ret := none) (by decide) rfl ?_
  intro p e s m args below meth c s₁ B hml hv
  obtain ⟨rfl, hsz, hP, hK, hD0, hE, hZ0⟩ := hv
  have hx := B.exec
  have hb := B.bytes
  have hr := B.returns
  have hts := atoms_spec (ws := wsX8_requireRange) B.pre
  have hown : s.vm.findClass RX8 = some m.cls := findClass_of_methodNamed B.named
  have hlocks := B.notSynchronized
  subst hsz
  have hD := hD0.self (sz := s.heap.size)
  generalize hAe : va_A [] s.heap.size = A at hD hZ0 ⊢
  have hZ := hZ0
  have hA : ∀ q : Nat, s.heap.size ≤ q → A q := fun q h => by rw [← hAe]; exact Or.inr h
  have hS : va_S A s.heap s.heap [] := va_S.rf
  have hP : va_P (dC, dI) vwCl [] s.heap := hP
  have hl := lv_entry ([.int v, .int lo, .int hi]) (n := 3) (Nat.le_of_ble_eq_true rfl)
  rw [lg_entry_eq]
  generalize (lg_sl ([.int v, .int lo, .int hi]) ++ List.replicate (3 - (lg_sl ([.int v, .int lo, .int hi])).length) Slot.unset).toArray = ls at hl ⊢
  have hl : lv_has ls 3 [(0, .int v), (1, .int lo), (2, .int hi)] := hl
  refine lv_iload_n hx hb dX8_requireRange_0 rfl (lv_at hl 0 rfl) ?_
  refine lv_iload_n hx hb dX8_requireRange_1 rfl (lv_at hl 1 rfl) ?_
  refine lv_icmp_lt (tgt := 10) hx hb dX8_requireRange_2 (by decide) (fun c9 => (hla c9).elim) (fun c_1 => ?_)
  refine lv_iload_n hx hb dX8_requireRange_5 rfl (lv_at hl 0 rfl) ?_
  refine lv_iload_n hx hb dX8_requireRange_6 rfl (lv_at hl 2 rfl) ?_
  refine lv_icmp_le (tgt := 21) hx hb dX8_requireRange_7 (by decide) (fun c_2 => ?_) (fun c9 => (c9 (Int32.not_lt.mp hua)).elim)
  have hP9 := hP.sub (ws' := []) [] rfl
  have hD9 := hD.sub (ws' := []) [] (by decide) rfl
  have hK9 := hK.sub (tys' := []) [] rfl
  refine W.widen (k := 0) (n := 0) (Nat.le_of_ble_eq_true rfl) (Nat.le_of_ble_eq_true rfl) ?_
  exact W.vret hx hb hr (fun t ht hW => ⟨⟨(), rfl, trivial, pst_of hP9 hD9 hK9 ht hW⟩, hS.F ht⟩) hS.2.2 dX8_requireRange_21

set_option maxHeartbeats 4000000 in
set_option maxRecDepth 100000 in
theorem c_rqRg_n (l : Launch) (hst : l.stackTraces = false) (dC : Nat → ClassId) (dI : Nat → Nat → Nat) (E : Nat → Nat) (v : Int32) (lo : Int32) (hi : Int32) (sz : Nat) (h : ¬ (¬ v < lo ∧ ¬ hi < v)) : vx_Met l yX8_requireRange wsX8_requireRange ({ frames := 6, cells := 1, slots := 6, locals := 82 }) (va_Pc [.int v, .int lo, .int hi] (pre dC dI E [] [] sz)) (va_Qv (fun (_ : Unit) => False) (fun _ _ => True) (va_A [] sz)) (vx_X (fun _ : Unit => True) (fun E9 _ _ => E9 = "java/lang/IllegalArgumentException") (va_A [] sz)) 1 6 (va_A [] sz) := by
  refine vx_ofW (cc := cX8_requireRange) (maxL := 3) (ret := none) (by decide) rfl ?_
  intro p e s m args below meth c s₁ B hml htab hv
  obtain ⟨rfl, hsz, hP, hK, hD0, hE, hZ0⟩ := hv
  have hx := B.exec
  have hb := B.bytes
  have hr := B.returns
  have hts := atoms_spec (ws := wsX8_requireRange) B.pre
  have hown : s.vm.findClass RX8 = some m.cls := findClass_of_methodNamed B.named
  have hlocks := B.notSynchronized
  subst hsz
  have hD := hD0.self (sz := s.heap.size)
  generalize hAe : va_A [] s.heap.size = A at hD hZ0 ⊢
  have hZ := hZ0
  have hA : ∀ q : Nat, s.heap.size ≤ q → A q := fun q h => by rw [← hAe]; exact Or.inr h
  have hS : va_S A s.heap s.heap [] := va_S.rf
  have hP : va_P (dC, dI) vwCl [] s.heap := hP
  have hl := lv_entry ([.int v, .int lo, .int hi]) (n := 3) (Nat.le_of_ble_eq_true rfl)
  rw [lg_entry_eq]
  generalize (lg_sl ([.int v, .int lo, .int hi]) ++ List.replicate (3 - (lg_sl ([.int v, .int lo, .int hi])).length) Slot.unset).toArray = ls at hl ⊢
  have hl : lv_has ls 3 [(0, .int v), (1, .int lo), (2, .int hi)] := hl
  refine lv_iload_n hx hb dX8_requireRange_0 rfl (lv_at hl 0 rfl) ?_
  refine lv_iload_n hx hb dX8_requireRange_1 rfl (lv_at hl 1 rfl) ?_
  refine lv_icmp_lt (tgt := 10) hx hb dX8_requireRange_2 (by decide) (fun c_1 => ?_) (fun c_1 => ?_)
  · have hat : ∀ w ∈ vx_atS RX8 57 "java/lang/IllegalArgumentException" ["java/lang/RuntimeException", "java/lang/Exception"], w.before ([.int v, .int lo, .int hi] : List Value).toArray s = true := vx_hat (B := xB "java/lang/IllegalArgumentException") (fun w h => hts w (List.mem_cons_of_mem _ (List.mem_append_right _ h))) (by decide +kernel) (xB_ok hE hE.2.2.1.2.1)
    exact vx_throwSW (own := RX8) (cls := "java/lang/IllegalArgumentException") (text := "out of range") (names := ["java/lang/RuntimeException", "java/lang/Exception"]) (A := A) hx hb hst hown (by decide +kernel) (by decide +kernel) (hts (.classLink RX8 53 "java/lang/IllegalArgumentException") (by decide +kernel)) (hts (.initialized "java/lang/IllegalArgumentException") (by decide +kernel)) hE.2.1.2.1 hat (by decide +kernel) hZ.2.1.1 hZ.2.1.2 hS (by rw [hml]; exact hl.1) dX8_requireRange_10 dX8_requireRange_13 dX8_requireRange_14 dX8_requireRange_17 dX8_requireRange_20 (fun x h => (htab x h).elim) (Nat.le_of_ble_eq_true rfl) (Nat.le_of_ble_eq_true rfl) (Nat.le_of_ble_eq_true rfl) (Nat.le_of_ble_eq_true rfl) hlocks (fun t hv hz hq => ⟨(), trivial, rfl, ⟨Nat.le_trans hS.1 hz, fun q h1 h2 => (hq q (Nat.lt_of_lt_of_le h1 hS.1)).trans (hS.2.1 q h1 h2)⟩⟩) hS.2.2 (Nat.le_of_ble_eq_true rfl) (Nat.le_of_ble_eq_true rfl)
  · refine lv_iload_n hx hb dX8_requireRange_5 rfl (lv_at hl 0 rfl) ?_
    refine lv_iload_n hx hb dX8_requireRange_6 rfl (lv_at hl 2 rfl) ?_
    refine lv_icmp_le (tgt := 21) hx hb dX8_requireRange_7 (by decide) (fun c9 => (h ⟨c_1, Int32.not_lt.mpr c9⟩).elim) (fun c_2 => ?_)
    have hat : ∀ w ∈ vx_atS RX8 57 "java/lang/IllegalArgumentException" ["java/lang/RuntimeException", "java/lang/Exception"], w.before ([.int v, .int lo, .int hi] : List Value).toArray s = true := vx_hat (B := xB "java/lang/IllegalArgumentException") (fun w h => hts w (List.mem_cons_of_mem _ (List.mem_append_right _ h))) (by decide +kernel) (xB_ok hE hE.2.2.1.2.1)
    exact vx_throwSW (own := RX8) (cls := "java/lang/IllegalArgumentException") (text := "out of range") (names := ["java/lang/RuntimeException", "java/lang/Exception"]) (A := A) hx hb hst hown (by decide +kernel) (by decide +kernel) (hts (.classLink RX8 53 "java/lang/IllegalArgumentException") (by decide +kernel)) (hts (.initialized "java/lang/IllegalArgumentException") (by decide +kernel)) hE.2.1.2.1 hat (by decide +kernel) hZ.2.1.1 hZ.2.1.2 hS (by rw [hml]; exact hl.1) dX8_requireRange_10 dX8_requireRange_13 dX8_requireRange_14 dX8_requireRange_17 dX8_requireRange_20 (fun x h => (htab x h).elim) (Nat.le_of_ble_eq_true rfl) (Nat.le_of_ble_eq_true rfl) (Nat.le_of_ble_eq_true rfl) (Nat.le_of_ble_eq_true rfl) hlocks (fun t hv hz hq => ⟨(), trivial, rfl, ⟨Nat.le_trans hS.1 hz, fun q h1 h2 => (hq q (Nat.lt_of_lt_of_le h1 hS.1)).trans (hS.2.1 q h1 h2)⟩⟩) hS.2.2 (Nat.le_of_ble_eq_true rfl) (Nat.le_of_ble_eq_true rfl)

set_option maxHeartbeats 4000000 in
set_option maxRecDepth 100000 in
theorem c_cx_requireRoom (l : Launch) (hst : l.stackTraces = false) (dC : Nat → ClassId) (dI : Nat → Nat → Nat) (E : Nat → Nat) (x : Nat) (now : Nat) (fc : Nat) (ro : Nat) (hto : Nat) (de : Nat) (cr : Nat) (co : Nat) (sh : Nat) (eo : Nat) (a0 : Nat) (a1 : Nat) (a2 : Nat) (a : Int32) (sz : Nat) : vx_Met l yX8_requireRoom wsX8_requireRoom ({ frames := 7, cells := 1, slots := 6, locals := 103 }) (va_Pc [.ref x, .int a] (pre dC dI E [(x, .inr (14, [.ref now, .ref fc])), (now, .inr (13, [.ref ro, .ref hto, .ref de, .ref cr, .ref co, .ref sh, .ref eo, .int 0, .int 0, .int 10, .int 100, .int 50, .int 0, .int 50])), (ro, .inr (11, [.ref a0, .ref a1, .ref a2, .int 0, .int 0]))] [] sz)) (va_Qv (fun (_ : Unit) => False) (fun _ _ => True) (va_A [(x, .inr (14, [.ref now, .ref fc])), (now, .inr (13, [.ref ro, .ref hto, .ref de, .ref cr, .ref co, .ref sh, .ref eo, .int 0, .int 0, .int 10, .int 100, .int 50, .int 0, .int 50])), (ro, .inr (11, [.ref a0, .ref a1, .ref a2, .int 0, .int 0]))] sz)) (vx_X (fun _ : Unit => True) (fun E9 _ _ => E9 = "java/lang/IndexOutOfBoundsException") (va_A [(x, .inr (14, [.ref now, .ref fc])), (now, .inr (13, [.ref ro, .ref hto, .ref de, .ref cr, .ref co, .ref sh, .ref eo, .int 0, .int 0, .int 10, .int 100, .int 50, .int 0, .int 50])), (ro, .inr (11, [.ref a0, .ref a1, .ref a2, .int 0, .int 0]))] sz)) 1 6 (va_A [(x, .inr (14, [.ref now, .ref fc])), (now, .inr (13, [.ref ro, .ref hto, .ref de, .ref cr, .ref co, .ref sh, .ref eo, .int 0, .int 0, .int 10, .int 100, .int 50, .int 0, .int 50])), (ro, .inr (11, [.ref a0, .ref a1, .ref a2, .int 0, .int 0]))] sz) := by
  refine vx_ofW (cc := cX8_requireRoom) (maxL := 2) (ret := none) (by decide) rfl ?_
  intro p e s m args below meth c s₁ B hml htab hv
  obtain ⟨rfl, hsz, hP, hK, hD0, hE, hZ0⟩ := hv
  have hx := B.exec
  have hb := B.bytes
  have hr := B.returns
  have hts := atoms_spec (ws := wsX8_requireRoom) B.pre
  have hown : s.vm.findClass RX8 = some m.cls := findClass_of_methodNamed B.named
  have hlocks := B.notSynchronized
  subst hsz
  have hD := hD0.self (sz := s.heap.size)
  generalize hAe : va_A [(x, .inr (14, [.ref now, .ref fc])), (now, .inr (13, [.ref ro, .ref hto, .ref de, .ref cr, .ref co, .ref sh, .ref eo, .int 0, .int 0, .int 10, .int 100, .int 50, .int 0, .int 50])), (ro, .inr (11, [.ref a0, .ref a1, .ref a2, .int 0, .int 0]))] s.heap.size = A at hD hZ0 ⊢
  have hZ := hZ0
  have hA : ∀ q : Nat, s.heap.size ≤ q → A q := fun q h => by rw [← hAe]; exact Or.inr h
  have hS : va_S A s.heap s.heap [] := va_S.rf
  have hP : va_P (dC, dI) vwCl [(x, .inr (14, [.ref now, .ref fc])), (now, .inr (13, [.ref ro, .ref hto, .ref de, .ref cr, .ref co, .ref sh, .ref eo, .int 0, .int 0, .int 10, .int 100, .int 50, .int 0, .int 50])), (ro, .inr (11, [.ref a0, .ref a1, .ref a2, .int 0, .int 0]))] s.heap := hP
  have hl := lv_entry ([.ref x, .int a]) (n := 2) (Nat.le_of_ble_eq_true rfl)
  rw [lg_entry_eq]
  generalize (lg_sl ([.ref x, .int a]) ++ List.replicate (2 - (lg_sl ([.ref x, .int a])).length) Slot.unset).toArray = ls at hl ⊢
  have hl : lv_has ls 2 [(0, .ref x), (1, .int a)] := hl
  refine lv_iload_n hx hb dX8_requireRoom_0 rfl (lv_at hl 1 rfl) ?_
  refine lv_aload_n hx hb dX8_requireRoom_1 rfl (lv_at hl 0 rfl) ?_
  refine va_get (D := (dC, dI)) (ci := 14) (v := .ref now) (C := RX8) (T := TX8) (N := 2) hx hb hts (by decide +kernel) hown hK hP 0 rfl rfl 0 (by decide) (hts (.fieldLink RX8 14 "Orbitdock" "now" "LOrbitdock$Station;") (by decide +kernel)) (fun _ h9 => h9) rfl dX8_requireRoom_2 ?_
  refine va_get (D := (dC, dI)) (ci := 13) (v := .ref ro) (C := RX7) (T := TX7) (N := 14) hx hb hts (by decide +kernel) hown hK hP 1 rfl rfl 0 (by decide) (hts (.fieldLink RX8 25 "Orbitdock$Station" "rooms" "LOrbitdock$Rooms;") (by decide +kernel)) (fun _ h9 => h9) rfl dX8_requireRoom_5 ?_
  refine va_get (D := (dC, dI)) (ci := 11) (v := .int 0) (C := RX5) (T := TX5) (N := 5) hx hb hts (by decide +kernel) hown hK hP 2 rfl rfl 3 (by decide) (hts (.fieldLink RX8 236 "Orbitdock$Rooms" "count" "I") (by decide +kernel)) (fun _ h9 => h9) rfl dX8_requireRoom_8 ?_
  have hPc := hP.sub (ws' := []) [] rfl
  have hDc := hD.sub (ws' := []) [] (by decide) rfl
  have hKc := hK.sub (tys' := []) [] rfl
  have hFc := va_free (wc := []) hD hS hA [] rfl
  refine vx_callv (vx_runS (As := [.int a, .int 0]) (rest := []) ⟨hx, hb, hml, hown, hts⟩ (c_rqIx l hst dC dI E a s.heap.size) (va_cwS 2 hts gX8_requireRoom_X8_requireIndex rfl rfl rfl (by decide +kernel) ⟨(Nat.le_of_ble_eq_true rfl), (Nat.le_of_ble_eq_true rfl)⟩) ⟨pre_blind, pre_call hPc hDc hKc hFc hE hZ hS⟩ rfl rfl hl.1 rfl (lv_room (Nat.le_of_ble_eq_true rfl)) dX8_requireRoom_11 ⟨(Nat.le_of_ble_eq_true rfl), (Nat.le_of_ble_eq_true rfl)⟩) hS (fun q _ h => hFc q h) hFc (fun q _ h => hFc q h) (fun E9 ce q9 u t H1 locs1 ht hvm hw hB hz1 hk1 hS hc9 hv9 hf9 => ?_) (fun u t H1 locs1 ht hvm hw hB hz1 hk1 hS => hw.elim)
  obtain rfl := hB
  exact vx_out (fun x h => (htab x h).elim) hlocks hc9 hv9 hf9 (fun t2 ht2 _ => ⟨(), trivial, rfl, hS.F ht2⟩) hS.2.2 (Nat.le_of_ble_eq_true rfl) (Nat.le_of_ble_eq_true rfl)

set_option maxHeartbeats 4000000 in
set_option maxRecDepth 100000 in
theorem c_cx_addHatch (l : Launch) (hst : l.stackTraces = false) (dC : Nat → ClassId) (dI : Nat → Nat → Nat) (E : Nat → Nat) (x : Nat) (now : Nat) (fc : Nat) (ro : Nat) (hto : Nat) (de : Nat) (cr : Nat) (co : Nat) (sh : Nat) (eo : Nat) (a0 : Nat) (a1 : Nat) (a2 : Nat) (a : Int32) (b : Int32) (sz : Nat) : vx_Met l yX8_addHatch wsX8_addHatch ({ frames := 8, cells := 1, slots := 6, locals := 124 }) (va_Pc [.ref x, .int a, .int b] (pre dC dI E [(x, .inr (14, [.ref now, .ref fc])), (now, .inr (13, [.ref ro, .ref hto, .ref de, .ref cr, .ref co, .ref sh, .ref eo, .int 0, .int 0, .int 10, .int 100, .int 50, .int 0, .int 50])), (ro, .inr (11, [.ref a0, .ref a1, .ref a2, .int 0, .int 0]))] [] sz)) (va_Qi (fun (_ : Int32) (_ : Unit) => False) (fun _ _ => True) (va_A [(x, .inr (14, [.ref now, .ref fc])), (now, .inr (13, [.ref ro, .ref hto, .ref de, .ref cr, .ref co, .ref sh, .ref eo, .int 0, .int 0, .int 10, .int 100, .int 50, .int 0, .int 50])), (ro, .inr (11, [.ref a0, .ref a1, .ref a2, .int 0, .int 0]))] sz)) (vx_X (fun _ : Unit => True) (fun E9 _ _ => E9 = "java/lang/IndexOutOfBoundsException") (va_A [(x, .inr (14, [.ref now, .ref fc])), (now, .inr (13, [.ref ro, .ref hto, .ref de, .ref cr, .ref co, .ref sh, .ref eo, .int 0, .int 0, .int 10, .int 100, .int 50, .int 0, .int 50])), (ro, .inr (11, [.ref a0, .ref a1, .ref a2, .int 0, .int 0]))] sz)) 1 6 (va_A [(x, .inr (14, [.ref now, .ref fc])), (now, .inr (13, [.ref ro, .ref hto, .ref de, .ref cr, .ref co, .ref sh, .ref eo, .int 0, .int 0, .int 10, .int 100, .int 50, .int 0, .int 50])), (ro, .inr (11, [.ref a0, .ref a1, .ref a2, .int 0, .int 0]))] sz) := by
  refine vx_ofW (cc := cX8_addHatch) (maxL := 3) (ret := (some .int)) (by decide) rfl ?_
  intro p e s m args below meth c s₁ B hml htab hv
  obtain ⟨rfl, hsz, hP, hK, hD0, hE, hZ0⟩ := hv
  have hx := B.exec
  have hb := B.bytes
  have hr := B.returns
  have hts := atoms_spec (ws := wsX8_addHatch) B.pre
  have hown : s.vm.findClass RX8 = some m.cls := findClass_of_methodNamed B.named
  have hlocks := B.notSynchronized
  subst hsz
  have hD := hD0.self (sz := s.heap.size)
  generalize hAe : va_A [(x, .inr (14, [.ref now, .ref fc])), (now, .inr (13, [.ref ro, .ref hto, .ref de, .ref cr, .ref co, .ref sh, .ref eo, .int 0, .int 0, .int 10, .int 100, .int 50, .int 0, .int 50])), (ro, .inr (11, [.ref a0, .ref a1, .ref a2, .int 0, .int 0]))] s.heap.size = A at hD hZ0 ⊢
  have hZ := hZ0
  have hA : ∀ q : Nat, s.heap.size ≤ q → A q := fun q h => by rw [← hAe]; exact Or.inr h
  have hS : va_S A s.heap s.heap [] := va_S.rf
  have hP : va_P (dC, dI) vwCl [(x, .inr (14, [.ref now, .ref fc])), (now, .inr (13, [.ref ro, .ref hto, .ref de, .ref cr, .ref co, .ref sh, .ref eo, .int 0, .int 0, .int 10, .int 100, .int 50, .int 0, .int 50])), (ro, .inr (11, [.ref a0, .ref a1, .ref a2, .int 0, .int 0]))] s.heap := hP
  have hl := lv_entry ([.ref x, .int a, .int b]) (n := 3) (Nat.le_of_ble_eq_true rfl)
  rw [lg_entry_eq]
  generalize (lg_sl ([.ref x, .int a, .int b]) ++ List.replicate (3 - (lg_sl ([.ref x, .int a, .int b])).length) Slot.unset).toArray = ls at hl ⊢
  have hl : lv_has ls 3 [(0, .ref x), (1, .int a), (2, .int b)] := hl
  refine lv_aload_n hx hb dX8_addHatch_0 rfl (lv_at hl 0 rfl) ?_
  refine lv_iload_n hx hb dX8_addHatch_1 rfl (lv_at hl 1 rfl) ?_
  have hPc := hP.sub (ws' := [(x, .inr (14, [.ref now, .ref fc])), (now, .inr (13, [.ref ro, .ref hto, .ref de, .ref cr, .ref co, .ref sh, .ref eo, .int 0, .int 0, .int 10, .int 100, .int 50, .int 0, .int 50])), (ro, .inr (11, [.ref a0, .ref a1, .ref a2, .int 0, .int 0]))]) [0, 1, 2] rfl
  have hDc := hD.sub (ws' := [(x, .inr (14, [.ref now, .ref fc])), (now, .inr (13, [.ref ro, .ref hto, .ref de, .ref cr, .ref co, .ref sh, .ref eo, .int 0, .int 0, .int 10, .int 100, .int 50, .int 0, .int 50])), (ro, .inr (11, [.ref a0, .ref a1, .ref a2, .int 0, .int 0]))]) [0, 1, 2] (by decide) rfl
  have hKc := hK.sub (tys' := []) [] rfl
  have hFc := va_free (wc := [(x, .inr (14, [.ref now, .ref fc])), (now, .inr (13, [.ref ro, .ref hto, .ref de, .ref cr, .ref co, .ref sh, .ref eo, .int 0, .int 0, .int 10, .int 100, .int 50, .int 0, .int 50])), (ro, .inr (11, [.ref a0, .ref a1, .ref a2, .int 0, .int 0]))]) hD hS hA [0, 1, 2] rfl
  refine vx_callv (vx_runV (As := [.int a]) (rest := []) ⟨hx, hb, hml, hown, hts⟩ (c_cx_requireRoom l hst dC dI E x now fc ro hto de cr co sh eo a0 a1 a2 a s.heap.size) (cwV 1 hts gX8_addHatch_X8_requireRoom rfl rfl rfl (by decide +kernel) ⟨(Nat.le_of_ble_eq_true rfl), (Nat.le_of_ble_eq_true rfl)⟩) ⟨pre_blind, va_recv hKc hPc (ci := 14) (q0 := 0) rfl rfl, pre_call hPc hDc hKc hFc hE hZ hS⟩ rfl rfl hl.1 rfl (lv_room (Nat.le_of_ble_eq_true rfl)) dX8_addHatch_2 ⟨(Nat.le_of_ble_eq_true rfl), (Nat.le_of_ble_eq_true rfl)⟩) hS (fun q _ h => hFc q h) hFc (fun q _ h => hFc q h) (fun E9 ce q9 u t H1 locs1 ht hvm hw hB hz1 hk1 hS hc9 hv9 hf9 => ?_) (fun u t H1 locs1 ht hvm hw hB hz1 hk1 hS => hw.elim)
  obtain rfl := hB
  exact vx_out (fun x h => (htab x h).elim) hlocks hc9 hv9 hf9 (fun t2 ht2 _ => ⟨(), trivial, rfl, hS.F ht2⟩) hS.2.2 (Nat.le_of_ble_eq_true rfl) (Nat.le_of_ble_eq_true rfl)

set_option maxHeartbeats 4000000 in
set_option maxRecDepth 100000 in
theorem c_cx_setHatch (l : Launch) (hst : l.stackTraces = false) (dC : Nat → ClassId) (dI : Nat → Nat → Nat) (E : Nat → Nat) (x : Nat) (now : Nat) (fc : Nat) (ro : Nat) (hto : Nat) (de : Nat) (cr : Nat) (co : Nat) (sh : Nat) (eo : Nat) (g0 : Nat) (g1 : Nat) (g2 : Nat) (a : Int32) (b : Int32) (sz : Nat) : vx_Met l yX8_setHatch wsX8_setHatch ({ frames := 7, cells := 1, slots := 6, locals := 103 }) (va_Pc [.ref x, .int a, .int b] (pre dC dI E [(x, .inr (14, [.ref now, .ref fc])), (now, .inr (13, [.ref ro, .ref hto, .ref de, .ref cr, .ref co, .ref sh, .ref eo, .int 0, .int 0, .int 10, .int 100, .int 50, .int 0, .int 50])), (hto, .inr (10, [.ref g0, .ref g1, .ref g2, .int 0]))] [] sz)) (va_Qi (fun (_ : Int32) (_ : Unit) => False) (fun _ _ => True) (va_A [(x, .inr (14, [.ref now, .ref fc])), (now, .inr (13, [.ref ro, .ref hto, .ref de, .ref cr, .ref co, .ref sh, .ref eo, .int 0, .int 0, .int 10, .int 100, .int 50, .int 0, .int 50])), (hto, .inr (10, [.ref g0, .ref g1, .ref g2, .int 0]))] sz)) (vx_X (fun _ : Unit => True) (fun E9 _ _ => E9 = "java/lang/IndexOutOfBoundsException") (va_A [(x, .inr (14, [.ref now, .ref fc])), (now, .inr (13, [.ref ro, .ref hto, .ref de, .ref cr, .ref co, .ref sh, .ref eo, .int 0, .int 0, .int 10, .int 100, .int 50, .int 0, .int 50])), (hto, .inr (10, [.ref g0, .ref g1, .ref g2, .int 0]))] sz)) 1 6 (va_A [(x, .inr (14, [.ref now, .ref fc])), (now, .inr (13, [.ref ro, .ref hto, .ref de, .ref cr, .ref co, .ref sh, .ref eo, .int 0, .int 0, .int 10, .int 100, .int 50, .int 0, .int 50])), (hto, .inr (10, [.ref g0, .ref g1, .ref g2, .int 0]))] sz) := by
  refine vx_ofW (cc := cX8_setHatch) (maxL := 4) (ret := (some .boolean)) (by decide) rfl ?_
  intro p e s m args below meth c s₁ B hml htab hv
  obtain ⟨rfl, hsz, hP, hK, hD0, hE, hZ0⟩ := hv
  have hx := B.exec
  have hb := B.bytes
  have hr := B.returns
  have hts := atoms_spec (ws := wsX8_setHatch) B.pre
  have hown : s.vm.findClass RX8 = some m.cls := findClass_of_methodNamed B.named
  have hlocks := B.notSynchronized
  subst hsz
  have hD := hD0.self (sz := s.heap.size)
  generalize hAe : va_A [(x, .inr (14, [.ref now, .ref fc])), (now, .inr (13, [.ref ro, .ref hto, .ref de, .ref cr, .ref co, .ref sh, .ref eo, .int 0, .int 0, .int 10, .int 100, .int 50, .int 0, .int 50])), (hto, .inr (10, [.ref g0, .ref g1, .ref g2, .int 0]))] s.heap.size = A at hD hZ0 ⊢
  have hZ := hZ0
  have hA : ∀ q : Nat, s.heap.size ≤ q → A q := fun q h => by rw [← hAe]; exact Or.inr h
  have hS : va_S A s.heap s.heap [] := va_S.rf
  have hP : va_P (dC, dI) vwCl [(x, .inr (14, [.ref now, .ref fc])), (now, .inr (13, [.ref ro, .ref hto, .ref de, .ref cr, .ref co, .ref sh, .ref eo, .int 0, .int 0, .int 10, .int 100, .int 50, .int 0, .int 50])), (hto, .inr (10, [.ref g0, .ref g1, .ref g2, .int 0]))] s.heap := hP
  have hl := lv_entry ([.ref x, .int a, .int b]) (n := 4) (Nat.le_of_ble_eq_true rfl)
  rw [lg_entry_eq]
  generalize (lg_sl ([.ref x, .int a, .int b]) ++ List.replicate (4 - (lg_sl ([.ref x, .int a, .int b])).length) Slot.unset).toArray = ls at hl ⊢
  have hl : lv_has ls 4 [(0, .ref x), (1, .int a), (2, .int b)] := hl
  refine lv_iload_n hx hb dX8_setHatch_0 rfl (lv_at hl 1 rfl) ?_
  refine lv_aload_n hx hb dX8_setHatch_1 rfl (lv_at hl 0 rfl) ?_
  refine va_get (D := (dC, dI)) (ci := 14) (v := .ref now) (C := RX8) (T := TX8) (N := 2) hx hb hts (by decide +kernel) hown hK hP 0 rfl rfl 0 (by decide) (hts (.fieldLink RX8 14 "Orbitdock" "now" "LOrbitdock$Station;") (by decide +kernel)) (fun _ h9 => h9) rfl dX8_setHatch_2 ?_
  refine va_get (D := (dC, dI)) (ci := 13) (v := .ref hto) (C := RX7) (T := TX7) (N := 14) hx hb hts (by decide +kernel) hown hK hP 1 rfl rfl 1 (by decide) (hts (.fieldLink RX8 58 "Orbitdock$Station" "hatches" "LOrbitdock$Hatches;") (by decide +kernel)) (fun _ h9 => h9) rfl dX8_setHatch_5 ?_
  refine va_get (D := (dC, dI)) (ci := 10) (v := .int 0) (C := RX4) (T := TX4) (N := 4) hx hb hts (by decide +kernel) hown hK hP 2 rfl rfl 3 (by decide) (hts (.fieldLink RX8 70 "Orbitdock$Hatches" "count" "I") (by decide +kernel)) (fun _ h9 => h9) rfl dX8_setHatch_8 ?_
  have hPc := hP.sub (ws' := []) [] rfl
  have hDc := hD.sub (ws' := []) [] (by decide) rfl
  have hKc := hK.sub (tys' := []) [] rfl
  have hFc := va_free (wc := []) hD hS hA [] rfl
  refine vx_callv (vx_runS (As := [.int a, .int 0]) (rest := []) ⟨hx, hb, hml, hown, hts⟩ (c_rqIx l hst dC dI E a s.heap.size) (va_cwS 2 hts gX8_setHatch_X8_requireIndex rfl rfl rfl (by decide +kernel) ⟨(Nat.le_of_ble_eq_true rfl), (Nat.le_of_ble_eq_true rfl)⟩) ⟨pre_blind, pre_call hPc hDc hKc hFc hE hZ hS⟩ rfl rfl hl.1 rfl (lv_room (Nat.le_of_ble_eq_true rfl)) dX8_setHatch_11 ⟨(Nat.le_of_ble_eq_true rfl), (Nat.le_of_ble_eq_true rfl)⟩) hS (fun q _ h => hFc q h) hFc (fun q _ h => hFc q h) (fun E9 ce q9 u t H1 locs1 ht hvm hw hB hz1 hk1 hS hc9 hv9 hf9 => ?_) (fun u t H1 locs1 ht hvm hw hB hz1 hk1 hS => hw.elim)
  obtain rfl := hB
  exact vx_out (fun x h => (htab x h).elim) hlocks hc9 hv9 hf9 (fun t2 ht2 _ => ⟨(), trivial, rfl, hS.F ht2⟩) hS.2.2 (Nat.le_of_ble_eq_true rfl) (Nat.le_of_ble_eq_true rfl)

set_option maxHeartbeats 4000000 in
set_option maxRecDepth 100000 in
theorem c_cx_setLeak (l : Launch) (hst : l.stackTraces = false) (dC : Nat → ClassId) (dI : Nat → Nat → Nat) (E : Nat → Nat) (x : Nat) (now : Nat) (fc : Nat) (ro : Nat) (hto : Nat) (de : Nat) (cr : Nat) (co : Nat) (sh : Nat) (eo : Nat) (a0 : Nat) (a1 : Nat) (a2 : Nat) (a : Int32) (b : Int32) (sz : Nat) : vx_Met l yX8_setLeak wsX8_setLeak ({ frames := 8, cells := 1, slots := 6, locals := 124 }) (va_Pc [.ref x, .int a, .int b] (pre dC dI E [(x, .inr (14, [.ref now, .ref fc])), (now, .inr (13, [.ref ro, .ref hto, .ref de, .ref cr, .ref co, .ref sh, .ref eo, .int 0, .int 0, .int 10, .int 100, .int 50, .int 0, .int 50])), (ro, .inr (11, [.ref a0, .ref a1, .ref a2, .int 0, .int 0]))] [] sz)) (va_Qi (fun (_ : Int32) (_ : Unit) => False) (fun _ _ => True) (va_A [(x, .inr (14, [.ref now, .ref fc])), (now, .inr (13, [.ref ro, .ref hto, .ref de, .ref cr, .ref co, .ref sh, .ref eo, .int 0, .int 0, .int 10, .int 100, .int 50, .int 0, .int 50])), (ro, .inr (11, [.ref a0, .ref a1, .ref a2, .int 0, .int 0]))] sz)) (vx_X (fun _ : Unit => True) (fun E9 _ _ => E9 = "java/lang/IndexOutOfBoundsException") (va_A [(x, .inr (14, [.ref now, .ref fc])), (now, .inr (13, [.ref ro, .ref hto, .ref de, .ref cr, .ref co, .ref sh, .ref eo, .int 0, .int 0, .int 10, .int 100, .int 50, .int 0, .int 50])), (ro, .inr (11, [.ref a0, .ref a1, .ref a2, .int 0, .int 0]))] sz)) 1 6 (va_A [(x, .inr (14, [.ref now, .ref fc])), (now, .inr (13, [.ref ro, .ref hto, .ref de, .ref cr, .ref co, .ref sh, .ref eo, .int 0, .int 0, .int 10, .int 100, .int 50, .int 0, .int 50])), (ro, .inr (11, [.ref a0, .ref a1, .ref a2, .int 0, .int 0]))] sz) := by
  refine vx_ofW (cc := cX8_setLeak) (maxL := 4) (ret := (some .int)) (by decide) rfl ?_
  intro p e s m args below meth c s₁ B hml htab hv
  obtain ⟨rfl, hsz, hP, hK, hD0, hE, hZ0⟩ := hv
  have hx := B.exec
  have hb := B.bytes
  have hr := B.returns
  have hts := atoms_spec (ws := wsX8_setLeak) B.pre
  have hown : s.vm.findClass RX8 = some m.cls := findClass_of_methodNamed B.named
  have hlocks := B.notSynchronized
  subst hsz
  have hD := hD0.self (sz := s.heap.size)
  generalize hAe : va_A [(x, .inr (14, [.ref now, .ref fc])), (now, .inr (13, [.ref ro, .ref hto, .ref de, .ref cr, .ref co, .ref sh, .ref eo, .int 0, .int 0, .int 10, .int 100, .int 50, .int 0, .int 50])), (ro, .inr (11, [.ref a0, .ref a1, .ref a2, .int 0, .int 0]))] s.heap.size = A at hD hZ0 ⊢
  have hZ := hZ0
  have hA : ∀ q : Nat, s.heap.size ≤ q → A q := fun q h => by rw [← hAe]; exact Or.inr h
  have hS : va_S A s.heap s.heap [] := va_S.rf
  have hP : va_P (dC, dI) vwCl [(x, .inr (14, [.ref now, .ref fc])), (now, .inr (13, [.ref ro, .ref hto, .ref de, .ref cr, .ref co, .ref sh, .ref eo, .int 0, .int 0, .int 10, .int 100, .int 50, .int 0, .int 50])), (ro, .inr (11, [.ref a0, .ref a1, .ref a2, .int 0, .int 0]))] s.heap := hP
  have hl := lv_entry ([.ref x, .int a, .int b]) (n := 4) (Nat.le_of_ble_eq_true rfl)
  rw [lg_entry_eq]
  generalize (lg_sl ([.ref x, .int a, .int b]) ++ List.replicate (4 - (lg_sl ([.ref x, .int a, .int b])).length) Slot.unset).toArray = ls at hl ⊢
  have hl : lv_has ls 4 [(0, .ref x), (1, .int a), (2, .int b)] := hl
  refine lv_aload_n hx hb dX8_setLeak_0 rfl (lv_at hl 0 rfl) ?_
  refine lv_iload_n hx hb dX8_setLeak_1 rfl (lv_at hl 1 rfl) ?_
  have hPc := hP.sub (ws' := [(x, .inr (14, [.ref now, .ref fc])), (now, .inr (13, [.ref ro, .ref hto, .ref de, .ref cr, .ref co, .ref sh, .ref eo, .int 0, .int 0, .int 10, .int 100, .int 50, .int 0, .int 50])), (ro, .inr (11, [.ref a0, .ref a1, .ref a2, .int 0, .int 0]))]) [0, 1, 2] rfl
  have hDc := hD.sub (ws' := [(x, .inr (14, [.ref now, .ref fc])), (now, .inr (13, [.ref ro, .ref hto, .ref de, .ref cr, .ref co, .ref sh, .ref eo, .int 0, .int 0, .int 10, .int 100, .int 50, .int 0, .int 50])), (ro, .inr (11, [.ref a0, .ref a1, .ref a2, .int 0, .int 0]))]) [0, 1, 2] (by decide) rfl
  have hKc := hK.sub (tys' := []) [] rfl
  have hFc := va_free (wc := [(x, .inr (14, [.ref now, .ref fc])), (now, .inr (13, [.ref ro, .ref hto, .ref de, .ref cr, .ref co, .ref sh, .ref eo, .int 0, .int 0, .int 10, .int 100, .int 50, .int 0, .int 50])), (ro, .inr (11, [.ref a0, .ref a1, .ref a2, .int 0, .int 0]))]) hD hS hA [0, 1, 2] rfl
  refine vx_callv (vx_runV (As := [.int a]) (rest := []) ⟨hx, hb, hml, hown, hts⟩ (c_cx_requireRoom l hst dC dI E x now fc ro hto de cr co sh eo a0 a1 a2 a s.heap.size) (cwV 1 hts gX8_setLeak_X8_requireRoom rfl rfl rfl (by decide +kernel) ⟨(Nat.le_of_ble_eq_true rfl), (Nat.le_of_ble_eq_true rfl)⟩) ⟨pre_blind, va_recv hKc hPc (ci := 14) (q0 := 0) rfl rfl, pre_call hPc hDc hKc hFc hE hZ hS⟩ rfl rfl hl.1 rfl (lv_room (Nat.le_of_ble_eq_true rfl)) dX8_setLeak_2 ⟨(Nat.le_of_ble_eq_true rfl), (Nat.le_of_ble_eq_true rfl)⟩) hS (fun q _ h => hFc q h) hFc (fun q _ h => hFc q h) (fun E9 ce q9 u t H1 locs1 ht hvm hw hB hz1 hk1 hS hc9 hv9 hf9 => ?_) (fun u t H1 locs1 ht hvm hw hB hz1 hk1 hS => hw.elim)
  obtain rfl := hB
  exact vx_out (fun x h => (htab x h).elim) hlocks hc9 hv9 hf9 (fun t2 ht2 _ => ⟨(), trivial, rfl, hS.F ht2⟩) hS.2.2 (Nat.le_of_ble_eq_true rfl) (Nat.le_of_ble_eq_true rfl)

set_option maxHeartbeats 4000000 in
set_option maxRecDepth 100000 in
theorem c_cx_addDevice_y (l : Launch) (hst : l.stackTraces = false) (dC : Nat → ClassId) (dI : Nat → Nat → Nat) (E : Nat → Nat) (x : Nat) (now : Nat) (fc : Nat) (ro : Nat) (hto : Nat) (de : Nat) (cr : Nat) (co : Nat) (sh : Nat) (eo : Nat) (a0 : Nat) (a1 : Nat) (a2 : Nat) (k : Int32) (b : Int32) (sz : Nat) (hk : k = 115 ∨ k = 101 ∨ k = 108) : vx_Met l yX8_addDevice wsX8_addDevice ({ frames := 8, cells := 1, slots := 6, locals := 124 }) (va_Pc [.ref x, .int k, .int b] (pre dC dI E [(x, .inr (14, [.ref now, .ref fc])), (now, .inr (13, [.ref ro, .ref hto, .ref de, .ref cr, .ref co, .ref sh, .ref eo, .int 0, .int 0, .int 10, .int 100, .int 50, .int 0, .int 50])), (ro, .inr (11, [.ref a0, .ref a1, .ref a2, .int 0, .int 0]))] [] sz)) (va_Qi (fun (_ : Int32) (_ : Unit) => False) (fun _ _ => True) (va_A [(x, .inr (14, [.ref now, .ref fc])), (now, .inr (13, [.ref ro, .ref hto, .ref de, .ref cr, .ref co, .ref sh, .ref eo, .int 0, .int 0, .int 10, .int 100, .int 50, .int 0, .int 50])), (ro, .inr (11, [.ref a0, .ref a1, .ref a2, .int 0, .int 0]))] sz)) (vx_X (fun _ : Unit => True) (fun E9 _ _ => E9 = "java/lang/IndexOutOfBoundsException") (va_A [(x, .inr (14, [.ref now, .ref fc])), (now, .inr (13, [.ref ro, .ref hto, .ref de, .ref cr, .ref co, .ref sh, .ref eo, .int 0, .int 0, .int 10, .int 100, .int 50, .int 0, .int 50])), (ro, .inr (11, [.ref a0, .ref a1, .ref a2, .int 0, .int 0]))] sz)) 1 6 (va_A [(x, .inr (14, [.ref now, .ref fc])), (now, .inr (13, [.ref ro, .ref hto, .ref de, .ref cr, .ref co, .ref sh, .ref eo, .int 0, .int 0, .int 10, .int 100, .int 50, .int 0, .int 50])), (ro, .inr (11, [.ref a0, .ref a1, .ref a2, .int 0, .int 0]))] sz) := by
  refine vx_ofW (cc := cX8_addDevice) (maxL := 3) (ret := (some .int)) (by decide) rfl ?_
  intro p e s m args below meth c s₁ B hml htab hv
  obtain ⟨rfl, hsz, hP, hK, hD0, hE, hZ0⟩ := hv
  have hx := B.exec
  have hb := B.bytes
  have hr := B.returns
  have hts := atoms_spec (ws := wsX8_addDevice) B.pre
  have hown : s.vm.findClass RX8 = some m.cls := findClass_of_methodNamed B.named
  have hlocks := B.notSynchronized
  subst hsz
  have hD := hD0.self (sz := s.heap.size)
  generalize hAe : va_A [(x, .inr (14, [.ref now, .ref fc])), (now, .inr (13, [.ref ro, .ref hto, .ref de, .ref cr, .ref co, .ref sh, .ref eo, .int 0, .int 0, .int 10, .int 100, .int 50, .int 0, .int 50])), (ro, .inr (11, [.ref a0, .ref a1, .ref a2, .int 0, .int 0]))] s.heap.size = A at hD hZ0 ⊢
  have hZ := hZ0
  have hA : ∀ q : Nat, s.heap.size ≤ q → A q := fun q h => by rw [← hAe]; exact Or.inr h
  have hS : va_S A s.heap s.heap [] := va_S.rf
  have hP : va_P (dC, dI) vwCl [(x, .inr (14, [.ref now, .ref fc])), (now, .inr (13, [.ref ro, .ref hto, .ref de, .ref cr, .ref co, .ref sh, .ref eo, .int 0, .int 0, .int 10, .int 100, .int 50, .int 0, .int 50])), (ro, .inr (11, [.ref a0, .ref a1, .ref a2, .int 0, .int 0]))] s.heap := hP
  have hl := lv_entry ([.ref x, .int k, .int b]) (n := 3) (Nat.le_of_ble_eq_true rfl)
  rw [lg_entry_eq]
  generalize (lg_sl ([.ref x, .int k, .int b]) ++ List.replicate (3 - (lg_sl ([.ref x, .int k, .int b])).length) Slot.unset).toArray = ls at hl ⊢
  have hl : lv_has ls 3 [(0, .ref x), (1, .int k), (2, .int b)] := hl
  refine lv_iload_n hx hb dX8_addDevice_0 rfl (lv_at hl 1 rfl) ?_
  refine lv_bipush (v := 115) hx hb dX8_addDevice_1 (by decide) ?_
  refine lv_icmp_eq (tgt := 28) hx hb dX8_addDevice_3 (by decide) (fun c_1 => ?_) (fun c_1 => ?_)
  · refine lv_aload_n hx hb dX8_addDevice_28 rfl (lv_at hl 0 rfl) ?_
    refine lv_iload_n hx hb dX8_addDevice_29 rfl (lv_at hl 2 rfl) ?_
    have hPc := hP.sub (ws' := [(x, .inr (14, [.ref now, .ref fc])), (now, .inr (13, [.ref ro, .ref hto, .ref de, .ref cr, .ref co, .ref sh, .ref eo, .int 0, .int 0, .int 10, .int 100, .int 50, .int 0, .int 50])), (ro, .inr (11, [.ref a0, .ref a1, .ref a2, .int 0, .int 0]))]) [0, 1, 2] rfl
    have hDc := hD.sub (ws' := [(x, .inr (14, [.ref now, .ref fc])), (now, .inr (13, [.ref ro, .ref hto, .ref de, .ref cr, .ref co, .ref sh, .ref eo, .int 0, .int 0, .int 10, .int 100, .int 50, .int 0, .int 50])), (ro, .inr (11, [.ref a0, .ref a1, .ref a2, .int 0, .int 0]))]) [0, 1, 2] (by decide) rfl
    have hKc := hK.sub (tys' := []) [] rfl
    have hFc := va_free (wc := [(x, .inr (14, [.ref now, .ref fc])), (now, .inr (13, [.ref ro, .ref hto, .ref de, .ref cr, .ref co, .ref sh, .ref eo, .int 0, .int 0, .int 10, .int 100, .int 50, .int 0, .int 50])), (ro, .inr (11, [.ref a0, .ref a1, .ref a2, .int 0, .int 0]))]) hD hS hA [0, 1, 2] rfl
    refine vx_callv (vx_runV (As := [.int b]) (rest := []) ⟨hx, hb, hml, hown, hts⟩ (c_cx_requireRoom l hst dC dI E x now fc ro hto de cr co sh eo a0 a1 a2 b s.heap.size) (cwV 1 hts gX8_addDevice_X8_requireRoom rfl rfl rfl (by decide +kernel) ⟨(Nat.le_of_ble_eq_true rfl), (Nat.le_of_ble_eq_true rfl)⟩) ⟨pre_blind, va_recv hKc hPc (ci := 14) (q0 := 0) rfl rfl, pre_call hPc hDc hKc hFc hE hZ hS⟩ rfl rfl hl.1 rfl (lv_room (Nat.le_of_ble_eq_true rfl)) dX8_addDevice_30 ⟨(Nat.le_of_ble_eq_true rfl), (Nat.le_of_ble_eq_true rfl)⟩) hS (fun q _ h => hFc q h) hFc (fun q _ h => hFc q h) (fun E9 ce q9 u t H1 locs1 ht hvm hw hB hz1 hk1 hS hc9 hv9 hf9 => ?_) (fun u t H1 locs1 ht hvm hw hB hz1 hk1 hS => hw.elim)
    obtain rfl := hB
    exact vx_out (fun x h => (htab x h).elim) hlocks hc9 hv9 hf9 (fun t2 ht2 _ => ⟨(), trivial, rfl, hS.F ht2⟩) hS.2.2 (Nat.le_of_ble_eq_true rfl) (Nat.le_of_ble_eq_true rfl)
  · refine lv_iload_n hx hb dX8_addDevice_6 rfl (lv_at hl 1 rfl) ?_
    refine lv_bipush (v := 101) hx hb dX8_addDevice_7 (by decide) ?_
    refine lv_icmp_eq (tgt := 28) hx hb dX8_addDevice_9 (by decide) (fun c_2 => ?_) (fun c_2 => ?_)
    · refine lv_aload_n hx hb dX8_addDevice_28 rfl (lv_at hl 0 rfl) ?_
      refine lv_iload_n hx hb dX8_addDevice_29 rfl (lv_at hl 2 rfl) ?_
      have hPc := hP.sub (ws' := [(x, .inr (14, [.ref now, .ref fc])), (now, .inr (13, [.ref ro, .ref hto, .ref de, .ref cr, .ref co, .ref sh, .ref eo, .int 0, .int 0, .int 10, .int 100, .int 50, .int 0, .int 50])), (ro, .inr (11, [.ref a0, .ref a1, .ref a2, .int 0, .int 0]))]) [0, 1, 2] rfl
      have hDc := hD.sub (ws' := [(x, .inr (14, [.ref now, .ref fc])), (now, .inr (13, [.ref ro, .ref hto, .ref de, .ref cr, .ref co, .ref sh, .ref eo, .int 0, .int 0, .int 10, .int 100, .int 50, .int 0, .int 50])), (ro, .inr (11, [.ref a0, .ref a1, .ref a2, .int 0, .int 0]))]) [0, 1, 2] (by decide) rfl
      have hKc := hK.sub (tys' := []) [] rfl
      have hFc := va_free (wc := [(x, .inr (14, [.ref now, .ref fc])), (now, .inr (13, [.ref ro, .ref hto, .ref de, .ref cr, .ref co, .ref sh, .ref eo, .int 0, .int 0, .int 10, .int 100, .int 50, .int 0, .int 50])), (ro, .inr (11, [.ref a0, .ref a1, .ref a2, .int 0, .int 0]))]) hD hS hA [0, 1, 2] rfl
      refine vx_callv (vx_runV (As := [.int b]) (rest := []) ⟨hx, hb, hml, hown, hts⟩ (c_cx_requireRoom l hst dC dI E x now fc ro hto de cr co sh eo a0 a1 a2 b s.heap.size) (cwV 1 hts gX8_addDevice_X8_requireRoom rfl rfl rfl (by decide +kernel) ⟨(Nat.le_of_ble_eq_true rfl), (Nat.le_of_ble_eq_true rfl)⟩) ⟨pre_blind, va_recv hKc hPc (ci := 14) (q0 := 0) rfl rfl, pre_call hPc hDc hKc hFc hE hZ hS⟩ rfl rfl hl.1 rfl (lv_room (Nat.le_of_ble_eq_true rfl)) dX8_addDevice_30 ⟨(Nat.le_of_ble_eq_true rfl), (Nat.le_of_ble_eq_true rfl)⟩) hS (fun q _ h => hFc q h) hFc (fun q _ h => hFc q h) (fun E9 ce q9 u t H1 locs1 ht hvm hw hB hz1 hk1 hS hc9 hv9 hf9 => ?_) (fun u t H1 locs1 ht hvm hw hB hz1 hk1 hS => hw.elim)
      obtain rfl := hB
      exact vx_out (fun x h => (htab x h).elim) hlocks hc9 hv9 hf9 (fun t2 ht2 _ => ⟨(), trivial, rfl, hS.F ht2⟩) hS.2.2 (Nat.le_of_ble_eq_true rfl) (Nat.le_of_ble_eq_true rfl)
    · refine lv_iload_n hx hb dX8_addDevice_12 rfl (lv_at hl 1 rfl) ?_
      refine lv_bipush (v := 108) hx hb dX8_addDevice_13 (by decide) ?_
      refine lv_icmp_eq (tgt := 28) hx hb dX8_addDevice_15 (by decide) (fun c_3 => ?_) (fun c9 => (hk.elim c_1 (fun h => h.elim c_2 c9)).elim)
      refine lv_aload_n hx hb dX8_addDevice_28 rfl (lv_at hl 0 rfl) ?_
      refine lv_iload_n hx hb dX8_addDevice_29 rfl (lv_at hl 2 rfl) ?_
      have hPc := hP.sub (ws' := [(x, .inr (14, [.ref now, .ref fc])), (now, .inr (13, [.ref ro, .ref hto, .ref de, .ref cr, .ref co, .ref sh, .ref eo, .int 0, .int 0, .int 10, .int 100, .int 50, .int 0, .int 50])), (ro, .inr (11, [.ref a0, .ref a1, .ref a2, .int 0, .int 0]))]) [0, 1, 2] rfl
      have hDc := hD.sub (ws' := [(x, .inr (14, [.ref now, .ref fc])), (now, .inr (13, [.ref ro, .ref hto, .ref de, .ref cr, .ref co, .ref sh, .ref eo, .int 0, .int 0, .int 10, .int 100, .int 50, .int 0, .int 50])), (ro, .inr (11, [.ref a0, .ref a1, .ref a2, .int 0, .int 0]))]) [0, 1, 2] (by decide) rfl
      have hKc := hK.sub (tys' := []) [] rfl
      have hFc := va_free (wc := [(x, .inr (14, [.ref now, .ref fc])), (now, .inr (13, [.ref ro, .ref hto, .ref de, .ref cr, .ref co, .ref sh, .ref eo, .int 0, .int 0, .int 10, .int 100, .int 50, .int 0, .int 50])), (ro, .inr (11, [.ref a0, .ref a1, .ref a2, .int 0, .int 0]))]) hD hS hA [0, 1, 2] rfl
      refine vx_callv (vx_runV (As := [.int b]) (rest := []) ⟨hx, hb, hml, hown, hts⟩ (c_cx_requireRoom l hst dC dI E x now fc ro hto de cr co sh eo a0 a1 a2 b s.heap.size) (cwV 1 hts gX8_addDevice_X8_requireRoom rfl rfl rfl (by decide +kernel) ⟨(Nat.le_of_ble_eq_true rfl), (Nat.le_of_ble_eq_true rfl)⟩) ⟨pre_blind, va_recv hKc hPc (ci := 14) (q0 := 0) rfl rfl, pre_call hPc hDc hKc hFc hE hZ hS⟩ rfl rfl hl.1 rfl (lv_room (Nat.le_of_ble_eq_true rfl)) dX8_addDevice_30 ⟨(Nat.le_of_ble_eq_true rfl), (Nat.le_of_ble_eq_true rfl)⟩) hS (fun q _ h => hFc q h) hFc (fun q _ h => hFc q h) (fun E9 ce q9 u t H1 locs1 ht hvm hw hB hz1 hk1 hS hc9 hv9 hf9 => ?_) (fun u t H1 locs1 ht hvm hw hB hz1 hk1 hS => hw.elim)
      obtain rfl := hB
      exact vx_out (fun x h => (htab x h).elim) hlocks hc9 hv9 hf9 (fun t2 ht2 _ => ⟨(), trivial, rfl, hS.F ht2⟩) hS.2.2 (Nat.le_of_ble_eq_true rfl) (Nat.le_of_ble_eq_true rfl)

set_option maxHeartbeats 4000000 in
set_option maxRecDepth 100000 in
theorem c_cx_addDevice_n (l : Launch) (hst : l.stackTraces = false) (dC : Nat → ClassId) (dI : Nat → Nat → Nat) (E : Nat → Nat) (x : Nat) (k : Int32) (b : Int32) (sz : Nat) (hk : ¬ (k = 115 ∨ k = 101 ∨ k = 108)) : vx_Met l yX8_addDevice wsX8_addDevice ({ frames := 6, cells := 1, slots := 6, locals := 82 }) (va_Pc [.ref x, .int k, .int b] (pre dC dI E [] [] sz)) (va_Qi (fun (_ : Int32) (_ : Unit) => False) (fun _ _ => True) (va_A [] sz)) (vx_X (fun _ : Unit => True) (fun E9 _ _ => E9 = "java/lang/IllegalArgumentException") (va_A [] sz)) 1 6 (va_A [] sz) := by
  refine vx_ofW (cc := cX8_addDevice) (maxL := 3) (ret := (some .int)) (by decide) rfl ?_
  intro p e s m args below meth c s₁ B hml htab hv
  obtain ⟨rfl, hsz, hP, hK, hD0, hE, hZ0⟩ := hv
  have hx := B.exec
  have hb := B.bytes
  have hr := B.returns
  have hts := atoms_spec (ws := wsX8_addDevice) B.pre
  have hown : s.vm.findClass RX8 = some m.cls := findClass_of_methodNamed B.named
  have hlocks := B.notSynchronized
  subst hsz
  have hD := hD0.self (sz := s.heap.size)
  generalize hAe : va_A [] s.heap.size = A at hD hZ0 ⊢
  have hZ := hZ0
  have hA : ∀ q : Nat, s.heap.size ≤ q → A q := fun q h => by rw [← hAe]; exact Or.inr h
  have hS : va_S A s.heap s.heap [] := va_S.rf
  have hP : va_P (dC, dI) vwCl [] s.heap := hP
  have hl := lv_entry ([.ref x, .int k, .int b]) (n := 3) (Nat.le_of_ble_eq_true rfl)
  rw [lg_entry_eq]
  generalize (lg_sl ([.ref x, .int k, .int b]) ++ List.replicate (3 - (lg_sl ([.ref x, .int k, .int b])).length) Slot.unset).toArray = ls at hl ⊢
  have hl : lv_has ls 3 [(0, .ref x), (1, .int k), (2, .int b)] := hl
  refine lv_iload_n hx hb dX8_addDevice_0 rfl (lv_at hl 1 rfl) ?_
  refine lv_bipush (v := 115) hx hb dX8_addDevice_1 (by decide) ?_
  refine lv_icmp_eq (tgt := 28) hx hb dX8_addDevice_3 (by decide) (fun c9 => (hk (Or.inl c9)).elim) (fun c_1 => ?_)
  refine lv_iload_n hx hb dX8_addDevice_6 rfl (lv_at hl 1 rfl) ?_
  refine lv_bipush (v := 101) hx hb dX8_addDevice_7 (by decide) ?_
  refine lv_icmp_eq (tgt := 28) hx hb dX8_addDevice_9 (by decide) (fun c9 => (hk (Or.inr (Or.inl c9))).elim) (fun c_2 => ?_)
  refine lv_iload_n hx hb dX8_addDevice_12 rfl (lv_at hl 1 rfl) ?_
  refine lv_bipush (v := 108) hx hb dX8_addDevice_13 (by decide) ?_
  refine lv_icmp_eq (tgt := 28) hx hb dX8_addDevice_15 (by decide) (fun c9 => (hk (Or.inr (Or.inr c9))).elim) (fun c_3 => ?_)
  have hat : ∀ w ∈ vx_atS RX8 57 "java/lang/IllegalArgumentException" ["java/lang/RuntimeException", "java/lang/Exception"], w.before ([.ref x, .int k, .int b] : List Value).toArray s = true := vx_hat (B := xB "java/lang/IllegalArgumentException") (fun w h => hts w (List.mem_cons_of_mem _ (List.mem_append_left _ (List.mem_append_left _ (List.mem_append_left _ (List.mem_append_right _ h)))))) (by decide +kernel) (xB_ok hE hE.2.2.1.2.1)
  exact vx_throwS (own := RX8) (cls := "java/lang/IllegalArgumentException") (text := "no such kind of device") (names := ["java/lang/RuntimeException", "java/lang/Exception"]) (A := A) hx hb hst hown (by decide +kernel) (by decide +kernel) (hts (.classLink RX8 53 "java/lang/IllegalArgumentException") (by decide +kernel)) (hts (.initialized "java/lang/IllegalArgumentException") (by decide +kernel)) hE.2.1.2.2.1 hat (by decide +kernel) hZ.2.1.1 hZ.2.1.2 hS (by rw [hml]; exact hl.1) dX8_addDevice_18 dX8_addDevice_21 dX8_addDevice_22 dX8_addDevice_24 dX8_addDevice_27 (fun x h => (htab x h).elim) (Nat.le_of_ble_eq_true rfl) (Nat.le_of_ble_eq_true rfl) (Nat.le_of_ble_eq_true rfl) (Nat.le_of_ble_eq_true rfl) hlocks (fun t hv hz hq => ⟨(), trivial, rfl, ⟨Nat.le_trans hS.1 hz, fun q h1 h2 => (hq q (Nat.lt_of_lt_of_le h1 hS.1)).trans (hS.2.1 q h1 h2)⟩⟩) hS.2.2 (Nat.le_of_ble_eq_true rfl) (Nat.le_of_ble_eq_true rfl)

set_option maxHeartbeats 4000000 in
set_option maxRecDepth 100000 in
theorem c_cx_setDevice (l : Launch) (hst : l.stackTraces = false) (dC : Nat → ClassId) (dI : Nat → Nat → Nat) (E : Nat → Nat) (x : Nat) (now : Nat) (fc : Nat) (ro : Nat) (hto : Nat) (de : Nat) (cr : Nat) (co : Nat) (sh : Nat) (eo : Nat) (v0 : Nat) (v1 : Nat) (v2 : Nat) (a : Int32) (b : Int32) (sz : Nat) : vx_Met l yX8_setDevice wsX8_setDevice ({ frames := 7, cells := 1, slots := 6, locals := 103 }) (va_Pc [.ref x, .int a, .int b] (pre dC dI E [(x, .inr (14, [.ref now, .ref fc])), (now, .inr (13, [.ref ro, .ref hto, .ref de, .ref cr, .ref co, .ref sh, .ref eo, .int 0, .int 0, .int 10, .int 100, .int 50, .int 0, .int 50])), (de, .inr (8, [.ref v0, .ref v1, .ref v2, .int 0, .int (-1)]))] [] sz)) (va_Qi (fun (_ : Int32) (_ : Unit) => False) (fun _ _ => True) (va_A [(x, .inr (14, [.ref now, .ref fc])), (now, .inr (13, [.ref ro, .ref hto, .ref de, .ref cr, .ref co, .ref sh, .ref eo, .int 0, .int 0, .int 10, .int 100, .int 50, .int 0, .int 50])), (de, .inr (8, [.ref v0, .ref v1, .ref v2, .int 0, .int (-1)]))] sz)) (vx_X (fun _ : Unit => True) (fun E9 _ _ => E9 = "java/lang/IndexOutOfBoundsException") (va_A [(x, .inr (14, [.ref now, .ref fc])), (now, .inr (13, [.ref ro, .ref hto, .ref de, .ref cr, .ref co, .ref sh, .ref eo, .int 0, .int 0, .int 10, .int 100, .int 50, .int 0, .int 50])), (de, .inr (8, [.ref v0, .ref v1, .ref v2, .int 0, .int (-1)]))] sz)) 1 6 (va_A [(x, .inr (14, [.ref now, .ref fc])), (now, .inr (13, [.ref ro, .ref hto, .ref de, .ref cr, .ref co, .ref sh, .ref eo, .int 0, .int 0, .int 10, .int 100, .int 50, .int 0, .int 50])), (de, .inr (8, [.ref v0, .ref v1, .ref v2, .int 0, .int (-1)]))] sz) := by
  refine vx_ofW (cc := cX8_setDevice) (maxL := 4) (ret := (some .boolean)) (by decide) rfl ?_
  intro p e s m args below meth c s₁ B hml htab hv
  obtain ⟨rfl, hsz, hP, hK, hD0, hE, hZ0⟩ := hv
  have hx := B.exec
  have hb := B.bytes
  have hr := B.returns
  have hts := atoms_spec (ws := wsX8_setDevice) B.pre
  have hown : s.vm.findClass RX8 = some m.cls := findClass_of_methodNamed B.named
  have hlocks := B.notSynchronized
  subst hsz
  have hD := hD0.self (sz := s.heap.size)
  generalize hAe : va_A [(x, .inr (14, [.ref now, .ref fc])), (now, .inr (13, [.ref ro, .ref hto, .ref de, .ref cr, .ref co, .ref sh, .ref eo, .int 0, .int 0, .int 10, .int 100, .int 50, .int 0, .int 50])), (de, .inr (8, [.ref v0, .ref v1, .ref v2, .int 0, .int (-1)]))] s.heap.size = A at hD hZ0 ⊢
  have hZ := hZ0
  have hA : ∀ q : Nat, s.heap.size ≤ q → A q := fun q h => by rw [← hAe]; exact Or.inr h
  have hS : va_S A s.heap s.heap [] := va_S.rf
  have hP : va_P (dC, dI) vwCl [(x, .inr (14, [.ref now, .ref fc])), (now, .inr (13, [.ref ro, .ref hto, .ref de, .ref cr, .ref co, .ref sh, .ref eo, .int 0, .int 0, .int 10, .int 100, .int 50, .int 0, .int 50])), (de, .inr (8, [.ref v0, .ref v1, .ref v2, .int 0, .int (-1)]))] s.heap := hP
  have hl := lv_entry ([.ref x, .int a, .int b]) (n := 4) (Nat.le_of_ble_eq_true rfl)
  rw [lg_entry_eq]
  generalize (lg_sl ([.ref x, .int a, .int b]) ++ List.replicate (4 - (lg_sl ([.ref x, .int a, .int b])).length) Slot.unset).toArray = ls at hl ⊢
  have hl : lv_has ls 4 [(0, .ref x), (1, .int a), (2, .int b)] := hl
  refine lv_iload_n hx hb dX8_setDevice_0 rfl (lv_at hl 1 rfl) ?_
  refine lv_aload_n hx hb dX8_setDevice_1 rfl (lv_at hl 0 rfl) ?_
  refine va_get (D := (dC, dI)) (ci := 14) (v := .ref now) (C := RX8) (T := TX8) (N := 2) hx hb hts (by decide +kernel) hown hK hP 0 rfl rfl 0 (by decide) (hts (.fieldLink RX8 14 "Orbitdock" "now" "LOrbitdock$Station;") (by decide +kernel)) (fun _ h9 => h9) rfl dX8_setDevice_2 ?_
  refine va_get (D := (dC, dI)) (ci := 13) (v := .ref de) (C := RX7) (T := TX7) (N := 14) hx hb hts (by decide +kernel) hown hK hP 1 rfl rfl 2 (by decide) (hts (.fieldLink RX8 87 "Orbitdock$Station" "devices" "LOrbitdock$Devices;") (by decide +kernel)) (fun _ h9 => h9) rfl dX8_setDevice_5 ?_
  refine va_get (D := (dC, dI)) (ci := 8) (v := .int 0) (C := RX2) (T := TX2) (N := 5) hx hb hts (by decide +kernel) hown hK hP 2 rfl rfl 3 (by decide) (hts (.fieldLink RX8 99 "Orbitdock$Devices" "count" "I") (by decide +kernel)) (fun _ h9 => h9) rfl dX8_setDevice_8 ?_
  have hPc := hP.sub (ws' := []) [] rfl
  have hDc := hD.sub (ws' := []) [] (by decide) rfl
  have hKc := hK.sub (tys' := []) [] rfl
  have hFc := va_free (wc := []) hD hS hA [] rfl
  refine vx_callv (vx_runS (As := [.int a, .int 0]) (rest := []) ⟨hx, hb, hml, hown, hts⟩ (c_rqIx l hst dC dI E a s.heap.size) (va_cwS 2 hts gX8_setDevice_X8_requireIndex rfl rfl rfl (by decide +kernel) ⟨(Nat.le_of_ble_eq_true rfl), (Nat.le_of_ble_eq_true rfl)⟩) ⟨pre_blind, pre_call hPc hDc hKc hFc hE hZ hS⟩ rfl rfl hl.1 rfl (lv_room (Nat.le_of_ble_eq_true rfl)) dX8_setDevice_11 ⟨(Nat.le_of_ble_eq_true rfl), (Nat.le_of_ble_eq_true rfl)⟩) hS (fun q _ h => hFc q h) hFc (fun q _ h => hFc q h) (fun E9 ce q9 u t H1 locs1 ht hvm hw hB hz1 hk1 hS hc9 hv9 hf9 => ?_) (fun u t H1 locs1 ht hvm hw hB hz1 hk1 hS => hw.elim)
  obtain rfl := hB
  exact vx_out (fun x h => (htab x h).elim) hlocks hc9 hv9 hf9 (fun t2 ht2 _ => ⟨(), trivial, rfl, hS.F ht2⟩) hS.2.2 (Nat.le_of_ble_eq_true rfl) (Nat.le_of_ble_eq_true rfl)

set_option maxHeartbeats 4000000 in
set_option maxRecDepth 100000 in
theorem c_cx_setPanels_y (l : Launch) (dC : Nat → ClassId) (dI : Nat → Nat → Nat) (E : Nat → Nat) (x : Nat) (now : Nat) (fc : Nat) (ro : Nat) (hto : Nat) (de : Nat) (cr : Nat) (co : Nat) (sh : Nat) (eo : Nat) (a : Int32) (sz : Nat) (hla : ¬ a < 0) (hua : ¬ 40 < a) : Met l yX8_setPanels wsX8_setPanels ({ frames := 1, cells := 0, slots := 0, locals := 22 }) (va_Pc [.ref x, .int a] (pre dC dI E [(x, .inr (14, [.ref now, .ref fc])), (now, .inr (13, [.ref ro, .ref hto, .ref de, .ref cr, .ref co, .ref sh, .ref eo, .int 0, .int 0, .int 10, .int 100, .int 50, .int 0, .int 50]))] [] sz)) (va_Qi (fun (r : Int32) (_ : Unit) => r = 10) (fun _ t => True) (va_A [(x, .inr (14, [.ref now, .ref fc])), (now, .inr (13, [.ref ro, .ref hto, .ref de, .ref cr, .ref co, .ref sh, .ref eo, .int 0, .int 0, .int 10, .int 100, .int 50, .int 0, .int 50]))] sz)) 0 0 (va_A [(x, .inr (14, [.ref now, .ref fc])), (now, .inr (13, [.ref ro, .ref hto, .ref de, .ref cr, .ref co, .ref sh, .ref eo, .int 0, .int 0, .int 10, .int 100, .int 50, .int 0, .int 50]))] sz) := by
  refine Met.ofW (cc := cX8_setPanels) (maxL := 3) (ret := (some .int)) (by decide) rfl ?_
  intro p e s m args below meth c s₁ B hml hv
  obtain ⟨rfl, hsz, hP, hK, hD0, hE, hZ0⟩ := hv
  have hx := B.exec
  have hb := B.bytes
  have hr := B.returns
  have hts := atoms_spec (ws := wsX8_setPanels) B.pre
  have hown : s.vm.findClass RX8 = some m.cls := findClass_of_methodNamed B.named
  have hlocks := B.notSynchronized
  subst hsz
  have hD := hD0.self (sz := s.heap.size)
  generalize hAe : va_A [(x, .inr (14, [.ref now, .ref fc])), (now, .inr (13, [.ref ro, .ref hto, .ref de, .ref cr, .ref co, .ref sh, .ref eo, .int 0, .int 0, .int 10, .int 100, .int 50, .int 0, .int 50]))] s.heap.size = A at hD hZ0 ⊢
  have hZ := hZ0
  have hA : ∀ q : Nat, s.heap.size ≤ q → A q := fun q h => by rw [← hAe]; exact Or.inr h
  have hS : va_S A s.heap s.heap [] := va_S.rf
  have hP : va_P (dC, dI) vwCl [(x, .inr (14, [.ref now, .ref fc])), (now, .inr (13, [.ref ro, .ref hto, .ref de, .ref cr, .ref co, .ref sh, .ref eo, .int 0, .int 0, .int 10, .int 100, .int 50, .int 0, .int 50]))] s.heap := hP
  have hl := lv_entry ([.ref x, .int a]) (n := 3) (Nat.le_of_ble_eq_true rfl)
  rw [lg_entry_eq]
  generalize (lg_sl ([.ref x, .int a]) ++ List.replicate (3 - (lg_sl ([.ref x, .int a])).length) Slot.unset).toArray = ls at hl ⊢
  have hl : lv_has ls 3 [(0, .ref x), (1, .int a)] := hl
  refine lv_iload_n hx hb dX8_setPanels_0 rfl (lv_at hl 1 rfl) ?_
  refine lv_iconst (v := 0) hx hb dX8_setPanels_1 (by decide) ?_
  refine lv_bipush (v := 40) hx hb dX8_setPanels_2 (by decide) ?_
  have hPc := hP.sub (ws' := []) [] rfl
  have hDc := hD.sub (ws' := []) [] (by decide) rfl
  have hKc := hK.sub (tys' := []) [] rfl
  have hFc := va_free (wc := []) hD hS hA [] rfl
  refine va_callv (va_runS (As := [.int a, .int 0, .int 40]) (rest := []) ⟨hx, hb, hml, hown, hts⟩ (c_rqRg_y l dC dI E a 0 40 s.heap.size hla hua) (va_cwS 3 hts gX8_setPanels_X8_requireRange rfl rfl rfl (by decide +kernel) ⟨(Nat.le_of_ble_eq_true rfl), (Nat.le_of_ble_eq_true rfl)⟩) ⟨pre_blind, pre_call hPc hDc hKc hFc hE hZ hS⟩ rfl rfl hl.1 rfl (lv_room (Nat.le_of_ble_eq_true rfl)) dX8_setPanels_4 ⟨(Nat.le_of_ble_eq_true rfl), (Nat.le_of_ble_eq_true rfl)⟩) hS (fun q _ h => hFc q h) hFc (fun u t H1 locs1 ht hvm hw hB hz1 hk1 hS => ?_)
  obtain ⟨hP, hD, hK⟩ := pst_join (wc := []) (wr := [(x, .inr (14, [.ref now, .ref fc])), (now, .inr (13, [.ref ro, .ref hto, .ref de, .ref cr, .ref co, .ref sh, .ref eo, .int 0, .int 0, .int 10, .int 100, .int 50, .int 0, .int 50]))]) (w1 := []) (tr := []) (t1 := []) hP hD hK [] [0, 1] [] rfl rfl rfl (by decide) (by decide) hk1 hFc ht hvm hB
  generalize H1 = H at hP hS ⊢
  have hP : va_P (dC, dI) vwCl [(x, .inr (14, [.ref now, .ref fc])), (now, .inr (13, [.ref ro, .ref hto, .ref de, .ref cr, .ref co, .ref sh, .ref eo, .int 0, .int 0, .int 10, .int 100, .int 50, .int 0, .int 50]))] H := hP
  have hD : va_D A [(x, .inr (14, [.ref now, .ref fc])), (now, .inr (13, [.ref ro, .ref hto, .ref de, .ref cr, .ref co, .ref sh, .ref eo, .int 0, .int 0, .int 10, .int 100, .int 50, .int 0, .int 50]))] := hD
  have hK : va_K (dC, dI) vwCl [] s := hK
  refine W.widen (k := 0) (n := 0) (Nat.le_of_ble_eq_true rfl) (Nat.le_of_ble_eq_true rfl) ?_
  refine lv_aload_n hx hb dX8_setPanels_7 rfl (lv_at hl 0 rfl) ?_
  refine va_get (D := (dC, dI)) (ci := 14) (v := .ref now) (C := RX8) (T := TX8) (N := 2) hx hb hts (by decide +kernel) hown hK hP 0 rfl rfl 0 (by decide) (hts (.fieldLink RX8 14 "Orbitdock" "now" "LOrbitdock$Station;") (by decide +kernel)) (fun _ h9 => h9) rfl dX8_setPanels_8 ?_
  refine va_get (D := (dC, dI)) (ci := 13) (v := .int 10) (C := RX7) (T := TX7) (N := 14) hx hb hts (by decide +kernel) hown hK hP 1 rfl rfl 9 (by decide) (hts (.fieldLink RX8 116 "Orbitdock$Station" "panels" "I") (by decide +kernel)) (fun _ h9 => h9) rfl dX8_setPanels_11 ?_
  refine lv_istore_n (lv' := [(2, .int 10), (0, .ref x), (1, .int a)]) hx hb dX8_setPanels_14 rfl hl (by decide) rfl (fun ls hl => ?_)
  refine lv_aload_n hx hb dX8_setPanels_15 rfl (lv_at hl 1 rfl) ?_
  refine va_get (D := (dC, dI)) (ci := 14) (v := .ref now) (C := RX8) (T := TX8) (N := 2) hx hb hts (by decide +kernel) hown hK hP 0 rfl rfl 0 (by decide) (hts (.fieldLink RX8 14 "Orbitdock" "now" "LOrbitdock$Station;") (by decide +kernel)) (fun _ h9 => h9) rfl dX8_setPanels_16 ?_
  refine lv_iload_n hx hb dX8_setPanels_19 rfl (lv_at hl 2 rfl) ?_
  refine va_put (D := (dC, dI)) (ci := 13) (v := .int a) (ty := .int) (C := RX7) (T := TX7) (N := 14) hx hb hts (by decide +kernel) tyX7 tyX7_ok nmX7 hown hK hP hD hS 1 rfl rfl 9 (by decide) (hts (.fieldLink RX8 116 "Orbitdock$Station" "panels" "I") (by decide +kernel)) (fun _ h9 => h9) rfl (by decide +kernel) rfl rfl (Nat.le_of_ble_eq_true rfl) dX8_setPanels_20 (fun H locs hP hD hS => ?_)
  have hP : va_P (dC, dI) vwCl [(x, .inr (14, [.ref now, .ref fc])), (now, .inr (13, [.ref ro, .ref hto, .ref de, .ref cr, .ref co, .ref sh, .ref eo, .int 0, .int 0, .int a, .int 100, .int 50, .int 0, .int 50]))] H := hP
  have hD : va_D A [(x, .inr (14, [.ref now, .ref fc])), (now, .inr (13, [.ref ro, .ref hto, .ref de, .ref cr, .ref co, .ref sh, .ref eo, .int 0, .int 0, .int a, .int 100, .int 50, .int 0, .int 50]))] := hD
  refine lv_iload_n hx hb dX8_setPanels_23 rfl (lv_at hl 0 rfl) ?_
  refine W.widen (k := 0) (n := 0) (Nat.le_of_ble_eq_true rfl) (Nat.le_of_ble_eq_true rfl) ?_
  exact W.iret (v := 10) hx hb hr (fun t ht hW => ⟨⟨10, (), rfl, rfl, trivial⟩, hS.F ht⟩) hS.2.2 dX8_setPanels_24

set_option maxHeartbeats 4000000 in
set_option maxRecDepth 100000 in
theorem c_cx_setPanels_n (l : Launch) (hst : l.stackTraces = false) (dC : Nat → ClassId) (dI : Nat → Nat → Nat) (E : Nat → Nat) (x : Nat) (a : Int32) (sz : Nat) (h : ¬ (¬ a < 0 ∧ ¬ 40 < a)) : vx_Met l yX8_setPanels wsX8_setPanels ({ frames := 7, cells := 1, slots := 6, locals := 104 }) (va_Pc [.ref x, .int a] (pre dC dI E [] [] sz)) (va_Qi (fun (_ : Int32) (_ : Unit) => False) (fun _ _ => True) (va_A [] sz)) (vx_X (fun _ : Unit => True) (fun E9 _ _ => E9 = "java/lang/IllegalArgumentException") (va_A [] sz)) 1 6 (va_A [] sz) := by
  refine vx_ofW (cc := cX8_setPanels) (maxL := 3) (ret := (some .int)) (by decide) rfl ?_
  intro p e s m args below meth c s₁ B hml htab hv
  obtain ⟨rfl, hsz, hP, hK, hD0, hE, hZ0⟩ := hv
  have hx := B.exec
  have hb := B.bytes
  have hr := B.returns
  have hts := atoms_spec (ws := wsX8_setPanels) B.pre
  have hown : s.vm.findClass RX8 = some m.cls := findClass_of_methodNamed B.named
  have hlocks := B.notSynchronized
  subst hsz
  have hD := hD0.self (sz := s.heap.size)
  generalize hAe : va_A [] s.heap.size = A at hD hZ0 ⊢
  have hZ := hZ0
  have hA : ∀ q : Nat, s.heap.size ≤ q → A q := fun q h => by rw [← hAe]; exact Or.inr h
  have hS : va_S A s.heap s.heap [] := va_S.rf
  have hP : va_P (dC, dI) vwCl [] s.heap := hP
  have hl := lv_entry ([.ref x, .int a]) (n := 3) (Nat.le_of_ble_eq_true rfl)
  rw [lg_entry_eq]
  generalize (lg_sl ([.ref x, .int a]) ++ List.replicate (3 - (lg_sl ([.ref x, .int a])).length) Slot.unset).toArray = ls at hl ⊢
  have hl : lv_has ls 3 [(0, .ref x), (1, .int a)] := hl
  refine lv_iload_n hx hb dX8_setPanels_0 rfl (lv_at hl 1 rfl) ?_
  refine lv_iconst (v := 0) hx hb dX8_setPanels_1 (by decide) ?_
  refine lv_bipush (v := 40) hx hb dX8_setPanels_2 (by decide) ?_
  have hPc := hP.sub (ws' := []) [] rfl
  have hDc := hD.sub (ws' := []) [] (by decide) rfl
  have hKc := hK.sub (tys' := []) [] rfl
  have hFc := va_free (wc := []) hD hS hA [] rfl
  refine vx_callv (vx_runS (As := [.int a, .int 0, .int 40]) (rest := []) ⟨hx, hb, hml, hown, hts⟩ (c_rqRg_n l hst dC dI E a 0 40 s.heap.size h) (va_cwS 3 hts gX8_setPanels_X8_requireRange rfl rfl rfl (by decide +kernel) ⟨(Nat.le_of_ble_eq_true rfl), (Nat.le_of_ble_eq_true rfl)⟩) ⟨pre_blind, pre_call hPc hDc hKc hFc hE hZ hS⟩ rfl rfl hl.1 rfl (lv_room (Nat.le_of_ble_eq_true rfl)) dX8_setPanels_4 ⟨(Nat.le_of_ble_eq_true rfl), (Nat.le_of_ble_eq_true rfl)⟩) hS (fun q _ h => hFc q h) hFc (fun q _ h => hFc q h) (fun E9 ce q9 u t H1 locs1 ht hvm hw hB hz1 hk1 hS hc9 hv9 hf9 => ?_) (fun u t H1 locs1 ht hvm hw hB hz1 hk1 hS => hw.elim)
  obtain rfl := hB
  exact vx_out (fun x h => (htab x h).elim) hlocks hc9 hv9 hf9 (fun t2 ht2 _ => ⟨(), trivial, rfl, hS.F ht2⟩) hS.2.2 (Nat.le_of_ble_eq_true rfl) (Nat.le_of_ble_eq_true rfl)

set_option maxHeartbeats 4000000 in
set_option maxRecDepth 100000 in
theorem c_cx_board (l : Launch) (hst : l.stackTraces = false) (dC : Nat → ClassId) (dI : Nat → Nat → Nat) (E : Nat → Nat) (x : Nat) (now : Nat) (fc : Nat) (ro : Nat) (hto : Nat) (de : Nat) (cr : Nat) (co : Nat) (sh : Nat) (eo : Nat) (a0 : Nat) (a1 : Nat) (a2 : Nat) (a : Int32) (sz : Nat) : vx_Met l yX8_board wsX8_board ({ frames := 8, cells := 1, slots := 6, locals := 124 }) (va_Pc [.ref x, .int a] (pre dC dI E [(x, .inr (14, [.ref now, .ref fc])), (now, .inr (13, [.ref ro, .ref hto, .ref de, .ref cr, .ref co, .ref sh, .ref eo, .int 0, .int 0, .int 10, .int 100, .int 50, .int 0, .int 50])), (ro, .inr (11, [.ref a0, .ref a1, .ref a2, .int 0, .int 0]))] [] sz)) (va_Qi (fun (_ : Int32) (_ : Unit) => False) (fun _ _ => True) (va_A [(x, .inr (14, [.ref now, .ref fc])), (now, .inr (13, [.ref ro, .ref hto, .ref de, .ref cr, .ref co, .ref sh, .ref eo, .int 0, .int 0, .int 10, .int 100, .int 50, .int 0, .int 50])), (ro, .inr (11, [.ref a0, .ref a1, .ref a2, .int 0, .int 0]))] sz)) (vx_X (fun _ : Unit => True) (fun E9 _ _ => E9 = "java/lang/IndexOutOfBoundsException") (va_A [(x, .inr (14, [.ref now, .ref fc])), (now, .inr (13, [.ref ro, .ref hto, .ref de, .ref cr, .ref co, .ref sh, .ref eo, .int 0, .int 0, .int 10, .int 100, .int 50, .int 0, .int 50])), (ro, .inr (11, [.ref a0, .ref a1, .ref a2, .int 0, .int 0]))] sz)) 1 6 (va_A [(x, .inr (14, [.ref now, .ref fc])), (now, .inr (13, [.ref ro, .ref hto, .ref de, .ref cr, .ref co, .ref sh, .ref eo, .int 0, .int 0, .int 10, .int 100, .int 50, .int 0, .int 50])), (ro, .inr (11, [.ref a0, .ref a1, .ref a2, .int 0, .int 0]))] sz) := by
  refine vx_ofW (cc := cX8_board) (maxL := 2) (ret := (some .int)) (by decide) rfl ?_
  intro p e s m args below meth c s₁ B hml htab hv
  obtain ⟨rfl, hsz, hP, hK, hD0, hE, hZ0⟩ := hv
  have hx := B.exec
  have hb := B.bytes
  have hr := B.returns
  have hts := atoms_spec (ws := wsX8_board) B.pre
  have hown : s.vm.findClass RX8 = some m.cls := findClass_of_methodNamed B.named
  have hlocks := B.notSynchronized
  subst hsz
  have hD := hD0.self (sz := s.heap.size)
  generalize hAe : va_A [(x, .inr (14, [.ref now, .ref fc])), (now, .inr (13, [.ref ro, .ref hto, .ref de, .ref cr, .ref co, .ref sh, .ref eo, .int 0, .int 0, .int 10, .int 100, .int 50, .int 0, .int 50])), (ro, .inr (11, [.ref a0, .ref a1, .ref a2, .int 0, .int 0]))] s.heap.size = A at hD hZ0 ⊢
  have hZ := hZ0
  have hA : ∀ q : Nat, s.heap.size ≤ q → A q := fun q h => by rw [← hAe]; exact Or.inr h
  have hS : va_S A s.heap s.heap [] := va_S.rf
  have hP : va_P (dC, dI) vwCl [(x, .inr (14, [.ref now, .ref fc])), (now, .inr (13, [.ref ro, .ref hto, .ref de, .ref cr, .ref co, .ref sh, .ref eo, .int 0, .int 0, .int 10, .int 100, .int 50, .int 0, .int 50])), (ro, .inr (11, [.ref a0, .ref a1, .ref a2, .int 0, .int 0]))] s.heap := hP
  have hl := lv_entry ([.ref x, .int a]) (n := 2) (Nat.le_of_ble_eq_true rfl)
  rw [lg_entry_eq]
  generalize (lg_sl ([.ref x, .int a]) ++ List.replicate (2 - (lg_sl ([.ref x, .int a])).length) Slot.unset).toArray = ls at hl ⊢
  have hl : lv_has ls 2 [(0, .ref x), (1, .int a)] := hl
  refine lv_aload_n hx hb dX8_board_0 rfl (lv_at hl 0 rfl) ?_
  refine lv_iload_n hx hb dX8_board_1 rfl (lv_at hl 1 rfl) ?_
  have hPc := hP.sub (ws' := [(x, .inr (14, [.ref now, .ref fc])), (now, .inr (13, [.ref ro, .ref hto, .ref de, .ref cr, .ref co, .ref sh, .ref eo, .int 0, .int 0, .int 10, .int 100, .int 50, .int 0, .int 50])), (ro, .inr (11, [.ref a0, .ref a1, .ref a2, .int 0, .int 0]))]) [0, 1, 2] rfl
  have hDc := hD.sub (ws' := [(x, .inr (14, [.ref now, .ref fc])), (now, .inr (13, [.ref ro, .ref hto, .ref de, .ref cr, .ref co, .ref sh, .ref eo, .int 0, .int 0, .int 10, .int 100, .int 50, .int 0, .int 50])), (ro, .inr (11, [.ref a0, .ref a1, .ref a2, .int 0, .int 0]))]) [0, 1, 2] (by decide) rfl
  have hKc := hK.sub (tys' := []) [] rfl
  have hFc := va_free (wc := [(x, .inr (14, [.ref now, .ref fc])), (now, .inr (13, [.ref ro, .ref hto, .ref de, .ref cr, .ref co, .ref sh, .ref eo, .int 0, .int 0, .int 10, .int 100, .int 50, .int 0, .int 50])), (ro, .inr (11, [.ref a0, .ref a1, .ref a2, .int 0, .int 0]))]) hD hS hA [0, 1, 2] rfl
  refine vx_callv (vx_runV (As := [.int a]) (rest := []) ⟨hx, hb, hml, hown, hts⟩ (c_cx_requireRoom l hst dC dI E x now fc ro hto de cr co sh eo a0 a1 a2 a s.heap.size) (cwV 1 hts gX8_board_X8_requireRoom rfl rfl rfl (by decide +kernel) ⟨(Nat.le_of_ble_eq_true rfl), (Nat.le_of_ble_eq_true rfl)⟩) ⟨pre_blind, va_recv hKc hPc (ci := 14) (q0 := 0) rfl rfl, pre_call hPc hDc hKc hFc hE hZ hS⟩ rfl rfl hl.1 rfl (lv_room (Nat.le_of_ble_eq_true rfl)) dX8_board_2 ⟨(Nat.le_of_ble_eq_true rfl), (Nat.le_of_ble_eq_true rfl)⟩) hS (fun q _ h => hFc q h) hFc (fun q _ h => hFc q h) (fun E9 ce q9 u t H1 locs1 ht hvm hw hB hz1 hk1 hS hc9 hv9 hf9 => ?_) (fun u t H1 locs1 ht hvm hw hB hz1 hk1 hS => hw.elim)
  obtain rfl := hB
  exact vx_out (fun x h => (htab x h).elim) hlocks hc9 hv9 hf9 (fun t2 ht2 _ => ⟨(), trivial, rfl, hS.F ht2⟩) hS.2.2 (Nat.le_of_ble_eq_true rfl) (Nat.le_of_ble_eq_true rfl)

set_option maxHeartbeats 4000000 in
set_option maxRecDepth 100000 in
theorem c_cx_move (l : Launch) (hst : l.stackTraces = false) (dC : Nat → ClassId) (dI : Nat → Nat → Nat) (E : Nat → Nat) (x : Nat) (now : Nat) (fc : Nat) (ro : Nat) (hto : Nat) (de : Nat) (cr : Nat) (co : Nat) (sh : Nat) (eo : Nat) (w0 : Nat) (w1 : Nat) (w2 : Nat) (w3 : Nat) (a : Int32) (b : Int32) (sz : Nat) : vx_Met l yX8_move wsX8_move ({ frames := 7, cells := 1, slots := 6, locals := 103 }) (va_Pc [.ref x, .int a, .int b] (pre dC dI E [(x, .inr (14, [.ref now, .ref fc])), (now, .inr (13, [.ref ro, .ref hto, .ref de, .ref cr, .ref co, .ref sh, .ref eo, .int 0, .int 0, .int 10, .int 100, .int 50, .int 0, .int 50])), (cr, .inr (7, [.ref w0, .ref w1, .ref w2, .ref w3, .int 0, .int 0]))] [] sz)) (va_Qi (fun (_ : Int32) (_ : Unit) => False) (fun _ _ => True) (va_A [(x, .inr (14, [.ref now, .ref fc])), (now, .inr (13, [.ref ro, .ref hto, .ref de, .ref cr, .ref co, .ref sh, .ref eo, .int 0, .int 0, .int 10, .int 100, .int 50, .int 0, .int 50])), (cr, .inr (7, [.ref w0, .ref w1, .ref w2, .ref w3, .int 0, .int 0]))] sz)) (vx_X (fun _ : Unit => True) (fun E9 _ _ => E9 = "java/lang/IndexOutOfBoundsException") (va_A [(x, .inr (14, [.ref now, .ref fc])), (now, .inr (13, [.ref ro, .ref hto, .ref de, .ref cr, .ref co, .ref sh, .ref eo, .int 0, .int 0, .int 10, .int 100, .int 50, .int 0, .int 50])), (cr, .inr (7, [.ref w0, .ref w1, .ref w2, .ref w3, .int 0, .int 0]))] sz)) 1 6 (va_A [(x, .inr (14, [.ref now, .ref fc])), (now, .inr (13, [.ref ro, .ref hto, .ref de, .ref cr, .ref co, .ref sh, .ref eo, .int 0, .int 0, .int 10, .int 100, .int 50, .int 0, .int 50])), (cr, .inr (7, [.ref w0, .ref w1, .ref w2, .ref w3, .int 0, .int 0]))] sz) := by
  refine vx_ofW (cc := cX8_move) (maxL := 4) (ret := (some .int)) (by decide) rfl ?_
  intro p e s m args below meth c s₁ B hml htab hv
  obtain ⟨rfl, hsz, hP, hK, hD0, hE, hZ0⟩ := hv
  have hx := B.exec
  have hb := B.bytes
  have hr := B.returns
  have hts := atoms_spec (ws := wsX8_move) B.pre
  have hown : s.vm.findClass RX8 = some m.cls := findClass_of_methodNamed B.named
  have hlocks := B.notSynchronized
  subst hsz
  have hD := hD0.self (sz := s.heap.size)
  generalize hAe : va_A [(x, .inr (14, [.ref now, .ref fc])), (now, .inr (13, [.ref ro, .ref hto, .ref de, .ref cr, .ref co, .ref sh, .ref eo, .int 0, .int 0, .int 10, .int 100, .int 50, .int 0, .int 50])), (cr, .inr (7, [.ref w0, .ref w1, .ref w2, .ref w3, .int 0, .int 0]))] s.heap.size = A at hD hZ0 ⊢
  have hZ := hZ0
  have hA : ∀ q : Nat, s.heap.size ≤ q → A q := fun q h => by rw [← hAe]; exact Or.inr h
  have hS : va_S A s.heap s.heap [] := va_S.rf
  have hP : va_P (dC, dI) vwCl [(x, .inr (14, [.ref now, .ref fc])), (now, .inr (13, [.ref ro, .ref hto, .ref de, .ref cr, .ref co, .ref sh, .ref eo, .int 0, .int 0, .int 10, .int 100, .int 50, .int 0, .int 50])), (cr, .inr (7, [.ref w0, .ref w1, .ref w2, .ref w3, .int 0, .int 0]))] s.heap := hP
  have hl := lv_entry ([.ref x, .int a, .int b]) (n := 4) (Nat.le_of_ble_eq_true rfl)
  rw [lg_entry_eq]
  generalize (lg_sl ([.ref x, .int a, .int b]) ++ List.replicate (4 - (lg_sl ([.ref x, .int a, .int b])).length) Slot.unset).toArray = ls at hl ⊢
  have hl : lv_has ls 4 [(0, .ref x), (1, .int a), (2, .int b)] := hl
  refine lv_iload_n hx hb dX8_move_0 rfl (lv_at hl 1 rfl) ?_
  refine lv_aload_n hx hb dX8_move_1 rfl (lv_at hl 0 rfl) ?_
  refine va_get (D := (dC, dI)) (ci := 14) (v := .ref now) (C := RX8) (T := TX8) (N := 2) hx hb hts (by decide +kernel) hown hK hP 0 rfl rfl 0 (by decide) (hts (.fieldLink RX8 14 "Orbitdock" "now" "LOrbitdock$Station;") (by decide +kernel)) (fun _ h9 => h9) rfl dX8_move_2 ?_
  refine va_get (D := (dC, dI)) (ci := 13) (v := .ref cr) (C := RX7) (T := TX7) (N := 14) hx hb hts (by decide +kernel) hown hK hP 1 rfl rfl 3 (by decide) (hts (.fieldLink RX8 119 "Orbitdock$Station" "crew" "LOrbitdock$Crew;") (by decide +kernel)) (fun _ h9 => h9) rfl dX8_move_5 ?_
  refine va_get (D := (dC, dI)) (ci := 7) (v := .int 0) (C := RX1) (T := TX1) (N := 6) hx hb hts (by decide +kernel) hown hK hP 2 rfl rfl 4 (by decide) (hts (.fieldLink RX8 129 "Orbitdock$Crew" "count" "I") (by decide +kernel)) (fun _ h9 => h9) rfl dX8_move_8 ?_
  have hPc := hP.sub (ws' := []) [] rfl
  have hDc := hD.sub (ws' := []) [] (by decide) rfl
  have hKc := hK.sub (tys' := []) [] rfl
  have hFc := va_free (wc := []) hD hS hA [] rfl
  refine vx_callv (vx_runS (As := [.int a, .int 0]) (rest := []) ⟨hx, hb, hml, hown, hts⟩ (c_rqIx l hst dC dI E a s.heap.size) (va_cwS 2 hts gX8_move_X8_requireIndex rfl rfl rfl (by decide +kernel) ⟨(Nat.le_of_ble_eq_true rfl), (Nat.le_of_ble_eq_true rfl)⟩) ⟨pre_blind, pre_call hPc hDc hKc hFc hE hZ hS⟩ rfl rfl hl.1 rfl (lv_room (Nat.le_of_ble_eq_true rfl)) dX8_move_11 ⟨(Nat.le_of_ble_eq_true rfl), (Nat.le_of_ble_eq_true rfl)⟩) hS (fun q _ h => hFc q h) hFc (fun q _ h => hFc q h) (fun E9 ce q9 u t H1 locs1 ht hvm hw hB hz1 hk1 hS hc9 hv9 hf9 => ?_) (fun u t H1 locs1 ht hvm hw hB hz1 hk1 hS => hw.elim)
  obtain rfl := hB
  exact vx_out (fun x h => (htab x h).elim) hlocks hc9 hv9 hf9 (fun t2 ht2 _ => ⟨(), trivial, rfl, hS.F ht2⟩) hS.2.2 (Nat.le_of_ble_eq_true rfl) (Nat.le_of_ble_eq_true rfl)

set_option maxHeartbeats 4000000 in
set_option maxRecDepth 100000 in
theorem c_cx_setTask (l : Launch) (hst : l.stackTraces = false) (dC : Nat → ClassId) (dI : Nat → Nat → Nat) (E : Nat → Nat) (x : Nat) (now : Nat) (fc : Nat) (ro : Nat) (hto : Nat) (de : Nat) (cr : Nat) (co : Nat) (sh : Nat) (eo : Nat) (w0 : Nat) (w1 : Nat) (w2 : Nat) (w3 : Nat) (a : Int32) (b : Int32) (sz : Nat) : vx_Met l yX8_setTask wsX8_setTask ({ frames := 7, cells := 1, slots := 6, locals := 103 }) (va_Pc [.ref x, .int a, .int b] (pre dC dI E [(x, .inr (14, [.ref now, .ref fc])), (now, .inr (13, [.ref ro, .ref hto, .ref de, .ref cr, .ref co, .ref sh, .ref eo, .int 0, .int 0, .int 10, .int 100, .int 50, .int 0, .int 50])), (cr, .inr (7, [.ref w0, .ref w1, .ref w2, .ref w3, .int 0, .int 0]))] [] sz)) (va_Qi (fun (_ : Int32) (_ : Unit) => False) (fun _ _ => True) (va_A [(x, .inr (14, [.ref now, .ref fc])), (now, .inr (13, [.ref ro, .ref hto, .ref de, .ref cr, .ref co, .ref sh, .ref eo, .int 0, .int 0, .int 10, .int 100, .int 50, .int 0, .int 50])), (cr, .inr (7, [.ref w0, .ref w1, .ref w2, .ref w3, .int 0, .int 0]))] sz)) (vx_X (fun _ : Unit => True) (fun E9 _ _ => E9 = "java/lang/IndexOutOfBoundsException") (va_A [(x, .inr (14, [.ref now, .ref fc])), (now, .inr (13, [.ref ro, .ref hto, .ref de, .ref cr, .ref co, .ref sh, .ref eo, .int 0, .int 0, .int 10, .int 100, .int 50, .int 0, .int 50])), (cr, .inr (7, [.ref w0, .ref w1, .ref w2, .ref w3, .int 0, .int 0]))] sz)) 1 6 (va_A [(x, .inr (14, [.ref now, .ref fc])), (now, .inr (13, [.ref ro, .ref hto, .ref de, .ref cr, .ref co, .ref sh, .ref eo, .int 0, .int 0, .int 10, .int 100, .int 50, .int 0, .int 50])), (cr, .inr (7, [.ref w0, .ref w1, .ref w2, .ref w3, .int 0, .int 0]))] sz) := by
  refine vx_ofW (cc := cX8_setTask) (maxL := 4) (ret := (some .char)) (by decide) rfl ?_
  intro p e s m args below meth c s₁ B hml htab hv
  obtain ⟨rfl, hsz, hP, hK, hD0, hE, hZ0⟩ := hv
  have hx := B.exec
  have hb := B.bytes
  have hr := B.returns
  have hts := atoms_spec (ws := wsX8_setTask) B.pre
  have hown : s.vm.findClass RX8 = some m.cls := findClass_of_methodNamed B.named
  have hlocks := B.notSynchronized
  subst hsz
  have hD := hD0.self (sz := s.heap.size)
  generalize hAe : va_A [(x, .inr (14, [.ref now, .ref fc])), (now, .inr (13, [.ref ro, .ref hto, .ref de, .ref cr, .ref co, .ref sh, .ref eo, .int 0, .int 0, .int 10, .int 100, .int 50, .int 0, .int 50])), (cr, .inr (7, [.ref w0, .ref w1, .ref w2, .ref w3, .int 0, .int 0]))] s.heap.size = A at hD hZ0 ⊢
  have hZ := hZ0
  have hA : ∀ q : Nat, s.heap.size ≤ q → A q := fun q h => by rw [← hAe]; exact Or.inr h
  have hS : va_S A s.heap s.heap [] := va_S.rf
  have hP : va_P (dC, dI) vwCl [(x, .inr (14, [.ref now, .ref fc])), (now, .inr (13, [.ref ro, .ref hto, .ref de, .ref cr, .ref co, .ref sh, .ref eo, .int 0, .int 0, .int 10, .int 100, .int 50, .int 0, .int 50])), (cr, .inr (7, [.ref w0, .ref w1, .ref w2, .ref w3, .int 0, .int 0]))] s.heap := hP
  have hl := lv_entry ([.ref x, .int a, .int b]) (n := 4) (Nat.le_of_ble_eq_true rfl)
  rw [lg_entry_eq]
  generalize (lg_sl ([.ref x, .int a, .int b]) ++ List.replicate (4 - (lg_sl ([.ref x, .int a, .int b])).length) Slot.unset).toArray = ls at hl ⊢
  have hl : lv_has ls 4 [(0, .ref x), (1, .int a), (2, .int b)] := hl
  refine lv_iload_n hx hb dX8_setTask_0 rfl (lv_at hl 1 rfl) ?_
  refine lv_aload_n hx hb dX8_setTask_1 rfl (lv_at hl 0 rfl) ?_
  refine va_get (D := (dC, dI)) (ci := 14) (v := .ref now) (C := RX8) (T := TX8) (N := 2) hx hb hts (by decide +kernel) hown hK hP 0 rfl rfl 0 (by decide) (hts (.fieldLink RX8 14 "Orbitdock" "now" "LOrbitdock$Station;") (by decide +kernel)) (fun _ h9 => h9) rfl dX8_setTask_2 ?_
  refine va_get (D := (dC, dI)) (ci := 13) (v := .ref cr) (C := RX7) (T := TX7) (N := 14) hx hb hts (by decide +kernel) hown hK hP 1 rfl rfl 3 (by decide) (hts (.fieldLink RX8 119 "Orbitdock$Station" "crew" "LOrbitdock$Crew;") (by decide +kernel)) (fun _ h9 => h9) rfl dX8_setTask_5 ?_
  refine va_get (D := (dC, dI)) (ci := 7) (v := .int 0) (C := RX1) (T := TX1) (N := 6) hx hb hts (by decide +kernel) hown hK hP 2 rfl rfl 4 (by decide) (hts (.fieldLink RX8 129 "Orbitdock$Crew" "count" "I") (by decide +kernel)) (fun _ h9 => h9) rfl dX8_setTask_8 ?_
  have hPc := hP.sub (ws' := []) [] rfl
  have hDc := hD.sub (ws' := []) [] (by decide) rfl
  have hKc := hK.sub (tys' := []) [] rfl
  have hFc := va_free (wc := []) hD hS hA [] rfl
  refine vx_callv (vx_runS (As := [.int a, .int 0]) (rest := []) ⟨hx, hb, hml, hown, hts⟩ (c_rqIx l hst dC dI E a s.heap.size) (va_cwS 2 hts gX8_setTask_X8_requireIndex rfl rfl rfl (by decide +kernel) ⟨(Nat.le_of_ble_eq_true rfl), (Nat.le_of_ble_eq_true rfl)⟩) ⟨pre_blind, pre_call hPc hDc hKc hFc hE hZ hS⟩ rfl rfl hl.1 rfl (lv_room (Nat.le_of_ble_eq_true rfl)) dX8_setTask_11 ⟨(Nat.le_of_ble_eq_true rfl), (Nat.le_of_ble_eq_true rfl)⟩) hS (fun q _ h => hFc q h) hFc (fun q _ h => hFc q h) (fun E9 ce q9 u t H1 locs1 ht hvm hw hB hz1 hk1 hS hc9 hv9 hf9 => ?_) (fun u t H1 locs1 ht hvm hw hB hz1 hk1 hS => hw.elim)
  obtain rfl := hB
  exact vx_out (fun x h => (htab x h).elim) hlocks hc9 hv9 hf9 (fun t2 ht2 _ => ⟨(), trivial, rfl, hS.F ht2⟩) hS.2.2 (Nat.le_of_ble_eq_true rfl) (Nat.le_of_ble_eq_true rfl)

set_option maxHeartbeats 4000000 in
set_option maxRecDepth 100000 in
theorem c_cx_send_y (l : Launch) (hst : l.stackTraces = false) (dC : Nat → ClassId) (dI : Nat → Nat → Nat) (E : Nat → Nat) (x : Nat) (now : Nat) (fc : Nat) (ro : Nat) (hto : Nat) (de : Nat) (cr : Nat) (co : Nat) (sh : Nat) (eo : Nat) (v0 : Nat) (v1 : Nat) (v2 : Nat) (g0 : Nat) (g1 : Nat) (g2 : Nat) (k : Int32) (a : Int32) (b : Int32) (c4 : Int32) (sz : Nat) (hk : k = 110 ∨ k = 102 ∨ k = 111 ∨ k = 104) (hla1 : ¬ b < 1) (hua1 : ¬ 99 < b) (hla2 : ¬ c4 < 0) (hua2 : ¬ 99 < c4) : vx_Met l yX8_send wsX8_send ({ frames := 7, cells := 1, slots := 6, locals := 103 }) (va_Pc [.ref x, .int k, .int a, .int b, .int c4] (pre dC dI E [(x, .inr (14, [.ref now, .ref fc])), (now, .inr (13, [.ref ro, .ref hto, .ref de, .ref cr, .ref co, .ref sh, .ref eo, .int 0, .int 0, .int 10, .int 100, .int 50, .int 0, .int 50])), (de, .inr (8, [.ref v0, .ref v1, .ref v2, .int 0, .int (-1)])), (hto, .inr (10, [.ref g0, .ref g1, .ref g2, .int 0]))] [] sz)) (va_Qi (fun (_ : Int32) (_ : Unit) => False) (fun _ _ => True) (va_A [(x, .inr (14, [.ref now, .ref fc])), (now, .inr (13, [.ref ro, .ref hto, .ref de, .ref cr, .ref co, .ref sh, .ref eo, .int 0, .int 0, .int 10, .int 100, .int 50, .int 0, .int 50])), (de, .inr (8, [.ref v0, .ref v1, .ref v2, .int 0, .int (-1)])), (hto, .inr (10, [.ref g0, .ref g1, .ref g2, .int 0]))] sz)) (vx_X (fun _ : Unit => True) (fun E9 _ _ => E9 = "java/lang/IndexOutOfBoundsException") (va_A [(x, .inr (14, [.ref now, .ref fc])), (now, .inr (13, [.ref ro, .ref hto, .ref de, .ref cr, .ref co, .ref sh, .ref eo, .int 0, .int 0, .int 10, .int 100, .int 50, .int 0, .int 50])), (de, .inr (8, [.ref v0, .ref v1, .ref v2, .int 0, .int (-1)])), (hto, .inr (10, [.ref g0, .ref g1, .ref g2, .int 0]))] sz)) 1 6 (va_A [(x, .inr (14, [.ref now, .ref fc])), (now, .inr (13, [.ref ro, .ref hto, .ref de, .ref cr, .ref co, .ref sh, .ref eo, .int 0, .int 0, .int 10, .int 100, .int 50, .int 0, .int 50])), (de, .inr (8, [.ref v0, .ref v1, .ref v2, .int 0, .int (-1)])), (hto, .inr (10, [.ref g0, .ref g1, .ref g2, .int 0]))] sz) := by
  refine vx_ofW (cc := cX8_send) (maxL := 6) (ret := (some .int)) (by decide) rfl ?_
  intro p e s m args below meth c s₁ B hml htab hv
  obtain ⟨rfl, hsz, hP, hK, hD0, hE, hZ0⟩ := hv
  have hx := B.exec
  have hb := B.bytes
  have hr := B.returns
  have hts := atoms_spec (ws := wsX8_send) B.pre
  have hown : s.vm.findClass RX8 = some m.cls := findClass_of_methodNamed B.named
  have hlocks := B.notSynchronized
  subst hsz
  have hD := hD0.self (sz := s.heap.size)
  generalize hAe : va_A [(x, .inr (14, [.ref now, .ref fc])), (now, .inr (13, [.ref ro, .ref hto, .ref de, .ref cr, .ref co, .ref sh, .ref eo, .int 0, .int 0, .int 10, .int 100, .int 50, .int 0, .int 50])), (de, .inr (8, [.ref v0, .ref v1, .ref v2, .int 0, .int (-1)])), (hto, .inr (10, [.ref g0, .ref g1, .ref g2, .int 0]))] s.heap.size = A at hD hZ0 ⊢
  have hZ := hZ0
  have hA : ∀ q : Nat, s.heap.size ≤ q → A q := fun q h => by rw [← hAe]; exact Or.inr h
  have hS : va_S A s.heap s.heap [] := va_S.rf
  have hP : va_P (dC, dI) vwCl [(x, .inr (14, [.ref now, .ref fc])), (now, .inr (13, [.ref ro, .ref hto, .ref de, .ref cr, .ref co, .ref sh, .ref eo, .int 0, .int 0, .int 10, .int 100, .int 50, .int 0, .int 50])), (de, .inr (8, [.ref v0, .ref v1, .ref v2, .int 0, .int (-1)])), (hto, .inr (10, [.ref g0, .ref g1, .ref g2, .int 0]))] s.heap := hP
  have hl := lv_entry ([.ref x, .int k, .int a, .int b, .int c4]) (n := 6) (Nat.le_of_ble_eq_true rfl)
  rw [lg_entry_eq]
  generalize (lg_sl ([.ref x, .int k, .int a, .int b, .int c4]) ++ List.replicate (6 - (lg_sl ([.ref x, .int k, .int a, .int b, .int c4])).length) Slot.unset).toArray = ls at hl ⊢
  have hl : lv_has ls 6 [(0, .ref x), (1, .int k), (2, .int a), (3, .int b), (4, .int c4)] := hl
  refine lv_iload_n hx hb dX8_send_0 rfl (lv_at hl 1 rfl) ?_
  refine lv_bipush (v := 110) hx hb dX8_send_1 (by decide) ?_
  refine lv_icmp_eq (tgt := 12) hx hb dX8_send_3 (by decide) (fun c_1 => ?_) (fun c_1 => ?_)
  · refine lv_iconst (v := 1) hx hb dX8_send_12 (by decide) ?_
    refine lv_goto (tgt := 17) hx hb dX8_send_13 (by decide) ?_
    refine lv_istore (lv' := [(5, .int 1), (0, .ref x), (1, .int k), (2, .int a), (3, .int b), (4, .int c4)]) hx hb dX8_send_17 hl (by decide) rfl (fun ls hl => ?_)
    refine lv_iload hx hb dX8_send_19 (lv_at hl 0 rfl) ?_
    refine lv_if_ne (tgt := 46) hx hb dX8_send_21 (by decide) (fun _ => ?_) (fun c9 => absurd c9 (by decide))
    refine lv_iload_n hx hb dX8_send_46 rfl (lv_at hl 4 rfl) ?_
    refine lv_iconst (v := 1) hx hb dX8_send_47 (by decide) ?_
    refine lv_bipush (v := 99) hx hb dX8_send_48 (by decide) ?_
    have hPc := hP.sub (ws' := []) [] rfl
    have hDc := hD.sub (ws' := []) [] (by decide) rfl
    have hKc := hK.sub (tys' := []) [] rfl
    have hFc := va_free (wc := []) hD hS hA [] rfl
    refine va_callv (va_runS (As := [.int b, .int 1, .int 99]) (rest := []) ⟨hx, hb, hml, hown, hts⟩ (c_rqRg_y l dC dI E b 1 99 s.heap.size hla1 hua1) (va_cwS 3 hts gX8_send_X8_requireRange rfl rfl rfl (by decide +kernel) ⟨(Nat.le_of_ble_eq_true rfl), (Nat.le_of_ble_eq_true rfl)⟩) ⟨pre_blind, pre_call hPc hDc hKc hFc hE hZ hS⟩ rfl rfl hl.1 rfl (lv_room (Nat.le_of_ble_eq_true rfl)) dX8_send_50 ⟨(Nat.le_of_ble_eq_true rfl), (Nat.le_of_ble_eq_true rfl)⟩) hS (fun q _ h => hFc q h) hFc (fun u t H1 locs1 ht hvm hw hB hz1 hk1 hS => ?_)
    obtain ⟨hP, hD, hK⟩ := pst_join (wc := []) (wr := [(x, .inr (14, [.ref now, .ref fc])), (now, .inr (13, [.ref ro, .ref hto, .ref de, .ref cr, .ref co, .ref sh, .ref eo, .int 0, .int 0, .int 10, .int 100, .int 50, .int 0, .int 50])), (de, .inr (8, [.ref v0, .ref v1, .ref v2, .int 0, .int (-1)])), (hto, .inr (10, [.ref g0, .ref g1, .ref g2, .int 0]))]) (w1 := []) (tr := []) (t1 := []) hP hD hK [] [0, 1, 2, 3] [] rfl rfl rfl (by decide) (by decide) hk1 hFc ht hvm hB
    generalize H1 = H at hP hS ⊢
    have hP : va_P (dC, dI) vwCl [(x, .inr (14, [.ref now, .ref fc])), (now, .inr (13, [.ref ro, .ref hto, .ref de, .ref cr, .ref co, .ref sh, .ref eo, .int 0, .int 0, .int 10, .int 100, .int 50, .int 0, .int 50])), (de, .inr (8, [.ref v0, .ref v1, .ref v2, .int 0, .int (-1)])), (hto, .inr (10, [.ref g0, .ref g1, .ref g2, .int 0]))] H := hP
    have hD : va_D A [(x, .inr (14, [.ref now, .ref fc])), (now, .inr (13, [.ref ro, .ref hto, .ref de, .ref cr, .ref co, .ref sh, .ref eo, .int 0, .int 0, .int 10, .int 100, .int 50, .int 0, .int 50])), (de, .inr (8, [.ref v0, .ref v1, .ref v2, .int 0, .int (-1)])), (hto, .inr (10, [.ref g0, .ref g1, .ref g2, .int 0]))] := hD
    have hK : va_K (dC, dI) vwCl [] s := hK
    refine W.widen (k := 0) (n := 0) (Nat.le_of_ble_eq_true rfl) (Nat.le_of_ble_eq_true rfl) ?_
    refine lv_iload hx hb dX8_send_53 (lv_at hl 5 rfl) ?_
    refine lv_iconst (v := 0) hx hb dX8_send_55 (by decide) ?_
    refine lv_bipush (v := 99) hx hb dX8_send_56 (by decide) ?_
    have hPc := hP.sub (ws' := []) [] rfl
    have hDc := hD.sub (ws' := []) [] (by decide) rfl
    have hKc := hK.sub (tys' := []) [] rfl
    have hFc := va_free (wc := []) hD hS hA [] rfl
    refine va_callv (va_runS (As := [.int c4, .int 0, .int 99]) (rest := []) ⟨hx, hb, hml, hown, hts⟩ (c_rqRg_y l dC dI E c4 0 99 H.size hla2 hua2) (va_cwS 3 hts gX8_send_X8_requireRange rfl rfl rfl (by decide +kernel) ⟨(Nat.le_of_ble_eq_true rfl), (Nat.le_of_ble_eq_true rfl)⟩) ⟨pre_blind, pre_call hPc hDc hKc hFc hE hZ hS⟩ rfl rfl hl.1 rfl (lv_room (Nat.le_of_ble_eq_true rfl)) dX8_send_58 ⟨(Nat.le_of_ble_eq_true rfl), (Nat.le_of_ble_eq_true rfl)⟩) hS (fun q _ h => hFc q h) hFc (fun u t H1 locs1 ht hvm hw hB hz1 hk1 hS => ?_)
    obtain ⟨hP, hD, hK⟩ := pst_join (wc := []) (wr := [(x, .inr (14, [.ref now, .ref fc])), (now, .inr (13, [.ref ro, .ref hto, .ref de, .ref cr, .ref co, .ref sh, .ref eo, .int 0, .int 0, .int 10, .int 100, .int 50, .int 0, .int 50])), (de, .inr (8, [.ref v0, .ref v1, .ref v2, .int 0, .int (-1)])), (hto, .inr (10, [.ref g0, .ref g1, .ref g2, .int 0]))]) (w1 := []) (tr := []) (t1 := []) hP hD hK [] [0, 1, 2, 3] [] rfl rfl rfl (by decide) (by decide) hk1 hFc ht hvm hB
    generalize H1 = H at hP hS ⊢
    have hP : va_P (dC, dI) vwCl [(x, .inr (14, [.ref now, .ref fc])), (now, .inr (13, [.ref ro, .ref hto, .ref de, .ref cr, .ref co, .ref sh, .ref eo, .int 0, .int 0, .int 10, .int 100, .int 50, .int 0, .int 50])), (de, .inr (8, [.ref v0, .ref v1, .ref v2, .int 0, .int (-1)])), (hto, .inr (10, [.ref g0, .ref g1, .ref g2, .int 0]))] H := hP
    have hD : va_D A [(x, .inr (14, [.ref now, .ref fc])), (now, .inr (13, [.ref ro, .ref hto, .ref de, .ref cr, .ref co, .ref sh, .ref eo, .int 0, .int 0, .int 10, .int 100, .int 50, .int 0, .int 50])), (de, .inr (8, [.ref v0, .ref v1, .ref v2, .int 0, .int (-1)])), (hto, .inr (10, [.ref g0, .ref g1, .ref g2, .int 0]))] := hD
    have hK : va_K (dC, dI) vwCl [] s := hK
    refine W.widen (k := 0) (n := 0) (Nat.le_of_ble_eq_true rfl) (Nat.le_of_ble_eq_true rfl) ?_
    refine lv_iload_n hx hb dX8_send_61 rfl (lv_at hl 3 rfl) ?_
    refine lv_iload hx hb dX8_send_62 (lv_at hl 0 rfl) ?_
    refine lv_if_eq (tgt := 80) hx hb dX8_send_64 (by decide) (fun c9 => absurd c9 (by decide)) (fun _ => ?_)
    refine lv_aload_n hx hb dX8_send_67 rfl (lv_at hl 1 rfl) ?_
    refine va_get (D := (dC, dI)) (ci := 14) (v := .ref now) (C := RX8) (T := TX8) (N := 2) hx hb hts (by decide +kernel) hown hK hP 0 rfl rfl 0 (by decide) (hts (.fieldLink RX8 14 "Orbitdock" "now" "LOrbitdock$Station;") (by decide +kernel)) (fun _ h9 => h9) rfl dX8_send_68 ?_
    refine va_get (D := (dC, dI)) (ci := 13) (v := .ref de) (C := RX7) (T := TX7) (N := 14) hx hb hts (by decide +kernel) hown hK hP 1 rfl rfl 2 (by decide) (hts (.fieldLink RX8 87 "Orbitdock$Station" "devices" "LOrbitdock$Devices;") (by decide +kernel)) (fun _ h9 => h9) rfl dX8_send_71 ?_
    refine va_get (D := (dC, dI)) (ci := 8) (v := .int 0) (C := RX2) (T := TX2) (N := 5) hx hb hts (by decide +kernel) hown hK hP 2 rfl rfl 3 (by decide) (hts (.fieldLink RX8 99 "Orbitdock$Devices" "count" "I") (by decide +kernel)) (fun _ h9 => h9) rfl dX8_send_74 ?_
    refine lv_goto (tgt := 90) hx hb dX8_send_77 (by decide) ?_
    have hPc := hP.sub (ws' := []) [] rfl
    have hDc := hD.sub (ws' := []) [] (by decide) rfl
    have hKc := hK.sub (tys' := []) [] rfl
    have hFc := va_free (wc := []) hD hS hA [] rfl
    refine vx_callv (vx_runS (As := [.int a, .int 0]) (rest := []) ⟨hx, hb, hml, hown, hts⟩ (c_rqIx l hst dC dI E a H.size) (va_cwS 2 hts gX8_send_X8_requireIndex rfl rfl rfl (by decide +kernel) ⟨(Nat.le_of_ble_eq_true rfl), (Nat.le_of_ble_eq_true rfl)⟩) ⟨pre_blind, pre_call hPc hDc hKc hFc hE hZ hS⟩ rfl rfl hl.1 rfl (lv_room (Nat.le_of_ble_eq_true rfl)) dX8_send_90 ⟨(Nat.le_of_ble_eq_true rfl), (Nat.le_of_ble_eq_true rfl)⟩) hS (fun q _ h => hFc q h) hFc (fun q _ h => hFc q h) (fun E9 ce q9 u t H1 locs1 ht hvm hw hB hz1 hk1 hS hc9 hv9 hf9 => ?_) (fun u t H1 locs1 ht hvm hw hB hz1 hk1 hS => hw.elim)
    obtain rfl := hB
    exact vx_out (fun x h => (htab x h).elim) hlocks hc9 hv9 hf9 (fun t2 ht2 _ => ⟨(), trivial, rfl, hS.F ht2⟩) hS.2.2 (Nat.le_of_ble_eq_true rfl) (Nat.le_of_ble_eq_true rfl)
  · refine lv_iload_n hx hb dX8_send_6 rfl (lv_at hl 1 rfl) ?_
    refine lv_bipush (v := 102) hx hb dX8_send_7 (by decide) ?_
    refine lv_icmp_ne (tgt := 16) hx hb dX8_send_9 (by decide) (fun c_6 => ?_) (fun c_6 => ?_)
    · refine lv_iconst (v := 0) hx hb dX8_send_16 (by decide) ?_
      refine lv_istore (lv' := [(5, .int 0), (0, .ref x), (1, .int k), (2, .int a), (3, .int b), (4, .int c4)]) hx hb dX8_send_17 hl (by decide) rfl (fun ls hl => ?_)
      refine lv_iload hx hb dX8_send_19 (lv_at hl 0 rfl) ?_
      refine lv_if_ne (tgt := 46) hx hb dX8_send_21 (by decide) (fun c9 => absurd (by decide) c9) (fun _ => ?_)
      refine lv_iload_n hx hb dX8_send_24 rfl (lv_at hl 2 rfl) ?_
      refine lv_bipush (v := 111) hx hb dX8_send_25 (by decide) ?_
      refine lv_icmp_eq (tgt := 46) hx hb dX8_send_27 (by decide) (fun c_8 => ?_) (fun c_8 => ?_)
      · refine lv_iload_n hx hb dX8_send_46 rfl (lv_at hl 4 rfl) ?_
        refine lv_iconst (v := 1) hx hb dX8_send_47 (by decide) ?_
        refine lv_bipush (v := 99) hx hb dX8_send_48 (by decide) ?_
        have hPc := hP.sub (ws' := []) [] rfl
        have hDc := hD.sub (ws' := []) [] (by decide) rfl
        have hKc := hK.sub (tys' := []) [] rfl
        have hFc := va_free (wc := []) hD hS hA [] rfl
        refine va_callv (va_runS (As := [.int b, .int 1, .int 99]) (rest := []) ⟨hx, hb, hml, hown, hts⟩ (c_rqRg_y l dC dI E b 1 99 s.heap.size hla1 hua1) (va_cwS 3 hts gX8_send_X8_requireRange rfl rfl rfl (by decide +kernel) ⟨(Nat.le_of_ble_eq_true rfl), (Nat.le_of_ble_eq_true rfl)⟩) ⟨pre_blind, pre_call hPc hDc hKc hFc hE hZ hS⟩ rfl rfl hl.1 rfl (lv_room (Nat.le_of_ble_eq_true rfl)) dX8_send_50 ⟨(Nat.le_of_ble_eq_true rfl), (Nat.le_of_ble_eq_true rfl)⟩) hS (fun q _ h => hFc q h) hFc (fun u t H1 locs1 ht hvm hw hB hz1 hk1 hS => ?_)
        obtain ⟨hP, hD, hK⟩ := pst_join (wc := []) (wr := [(x, .inr (14, [.ref now, .ref fc])), (now, .inr (13, [.ref ro, .ref hto, .ref de, .ref cr, .ref co, .ref sh, .ref eo, .int 0, .int 0, .int 10, .int 100, .int 50, .int 0, .int 50])), (de, .inr (8, [.ref v0, .ref v1, .ref v2, .int 0, .int (-1)])), (hto, .inr (10, [.ref g0, .ref g1, .ref g2, .int 0]))]) (w1 := []) (tr := []) (t1 := []) hP hD hK [] [0, 1, 2, 3] [] rfl rfl rfl (by decide) (by decide) hk1 hFc ht hvm hB
        generalize H1 = H at hP hS ⊢
        have hP : va_P (dC, dI) vwCl [(x, .inr (14, [.ref now, .ref fc])), (now, .inr (13, [.ref ro, .ref hto, .ref de, .ref cr, .ref co, .ref sh, .ref eo, .int 0, .int 0, .int 10, .int 100, .int 50, .int 0, .int 50])), (de, .inr (8, [.ref v0, .ref v1, .ref v2, .int 0, .int (-1)])), (hto, .inr (10, [.ref g0, .ref g1, .ref g2, .int 0]))] H := hP
        have hD : va_D A [(x, .inr (14, [.ref now, .ref fc])), (now, .inr (13, [.ref ro, .ref hto, .ref de, .ref cr, .ref co, .ref sh, .ref eo, .int 0, .int 0, .int 10, .int 100, .int 50, .int 0, .int 50])), (de, .inr (8, [.ref v0, .ref v1, .ref v2, .int 0, .int (-1)])), (hto, .inr (10, [.ref g0, .ref g1, .ref g2, .int 0]))] := hD
        have hK : va_K (dC, dI) vwCl [] s := hK
        refine W.widen (k := 0) (n := 0) (Nat.le_of_ble_eq_true rfl) (Nat.le_of_ble_eq_true rfl) ?_
        refine lv_iload hx hb dX8_send_53 (lv_at hl 5 rfl) ?_
        refine lv_iconst (v := 0) hx hb dX8_send_55 (by decide) ?_
        refine lv_bipush (v := 99) hx hb dX8_send_56 (by decide) ?_
        have hPc := hP.sub (ws' := []) [] rfl
        have hDc := hD.sub (ws' := []) [] (by decide) rfl
        have hKc := hK.sub (tys' := []) [] rfl
        have hFc := va_free (wc := []) hD hS hA [] rfl
        refine va_callv (va_runS (As := [.int c4, .int 0, .int 99]) (rest := []) ⟨hx, hb, hml, hown, hts⟩ (c_rqRg_y l dC dI E c4 0 99 H.size hla2 hua2) (va_cwS 3 hts gX8_send_X8_requireRange rfl rfl rfl (by decide +kernel) ⟨(Nat.le_of_ble_eq_true rfl), (Nat.le_of_ble_eq_true rfl)⟩) ⟨pre_blind, pre_call hPc hDc hKc hFc hE hZ hS⟩ rfl rfl hl.1 rfl (lv_room (Nat.le_of_ble_eq_true rfl)) dX8_send_58 ⟨(Nat.le_of_ble_eq_true rfl), (Nat.le_of_ble_eq_true rfl)⟩) hS (fun q _ h => hFc q h) hFc (fun u t H1 locs1 ht hvm hw hB hz1 hk1 hS => ?_)
        obtain ⟨hP, hD, hK⟩ := pst_join (wc := []) (wr := [(x, .inr (14, [.ref now, .ref fc])), (now, .inr (13, [.ref ro, .ref hto, .ref de, .ref cr, .ref co, .ref sh, .ref eo, .int 0, .int 0, .int 10, .int 100, .int 50, .int 0, .int 50])), (de, .inr (8, [.ref v0, .ref v1, .ref v2, .int 0, .int (-1)])), (hto, .inr (10, [.ref g0, .ref g1, .ref g2, .int 0]))]) (w1 := []) (tr := []) (t1 := []) hP hD hK [] [0, 1, 2, 3] [] rfl rfl rfl (by decide) (by decide) hk1 hFc ht hvm hB
        generalize H1 = H at hP hS ⊢
        have hP : va_P (dC, dI) vwCl [(x, .inr (14, [.ref now, .ref fc])), (now, .inr (13, [.ref ro, .ref hto, .ref de, .ref cr, .ref co, .ref sh, .ref eo, .int 0, .int 0, .int 10, .int 100, .int 50, .int 0, .int 50])), (de, .inr (8, [.ref v0, .ref v1, .ref v2, .int 0, .int (-1)])), (hto, .inr (10, [.ref g0, .ref g1, .ref g2, .int 0]))] H := hP
        have hD : va_D A [(x, .inr (14, [.ref now, .ref fc])), (now, .inr (13, [.ref ro, .ref hto, .ref de, .ref cr, .ref co, .ref sh, .ref eo, .int 0, .int 0, .int 10, .int 100, .int 50, .int 0, .int 50])), (de, .inr (8, [.ref v0, .ref v1, .ref v2, .int 0, .int (-1)])), (hto, .inr (10, [.ref g0, .ref g1, .ref g2, .int 0]))] := hD
        have hK : va_K (dC, dI) vwCl [] s := hK
        refine W.widen (k := 0) (n := 0) (Nat.le_of_ble_eq_true rfl) (Nat.le_of_ble_eq_true rfl) ?_
        refine lv_iload_n hx hb dX8_send_61 rfl (lv_at hl 3 rfl) ?_
        refine lv_iload hx hb dX8_send_62 (lv_at hl 0 rfl) ?_
        refine lv_if_eq (tgt := 80) hx hb dX8_send_64 (by decide) (fun _ => ?_) (fun c9 => absurd (by decide) c9)
        refine lv_aload_n hx hb dX8_send_80 rfl (lv_at hl 1 rfl) ?_
        refine va_get (D := (dC, dI)) (ci := 14) (v := .ref now) (C := RX8) (T := TX8) (N := 2) hx hb hts (by decide +kernel) hown hK hP 0 rfl rfl 0 (by decide) (hts (.fieldLink RX8 14 "Orbitdock" "now" "LOrbitdock$Station;") (by decide +kernel)) (fun _ h9 => h9) rfl dX8_send_81 ?_
        refine va_get (D := (dC, dI)) (ci := 13) (v := .ref hto) (C := RX7) (T := TX7) (N := 14) hx hb hts (by decide +kernel) hown hK hP 1 rfl rfl 1 (by decide) (hts (.fieldLink RX8 58 "Orbitdock$Station" "hatches" "LOrbitdock$Hatches;") (by decide +kernel)) (fun _ h9 => h9) rfl dX8_send_84 ?_
        refine va_get (D := (dC, dI)) (ci := 10) (v := .int 0) (C := RX4) (T := TX4) (N := 4) hx hb hts (by decide +kernel) hown hK hP 3 rfl rfl 3 (by decide) (hts (.fieldLink RX8 70 "Orbitdock$Hatches" "count" "I") (by decide +kernel)) (fun _ h9 => h9) rfl dX8_send_87 ?_
        have hPc := hP.sub (ws' := []) [] rfl
        have hDc := hD.sub (ws' := []) [] (by decide) rfl
        have hKc := hK.sub (tys' := []) [] rfl
        have hFc := va_free (wc := []) hD hS hA [] rfl
        refine vx_callv (vx_runS (As := [.int a, .int 0]) (rest := []) ⟨hx, hb, hml, hown, hts⟩ (c_rqIx l hst dC dI E a H.size) (va_cwS 2 hts gX8_send_X8_requireIndex rfl rfl rfl (by decide +kernel) ⟨(Nat.le_of_ble_eq_true rfl), (Nat.le_of_ble_eq_true rfl)⟩) ⟨pre_blind, pre_call hPc hDc hKc hFc hE hZ hS⟩ rfl rfl hl.1 rfl (lv_room (Nat.le_of_ble_eq_true rfl)) dX8_send_90 ⟨(Nat.le_of_ble_eq_true rfl), (Nat.le_of_ble_eq_true rfl)⟩) hS (fun q _ h => hFc q h) hFc (fun q _ h => hFc q h) (fun E9 ce q9 u t H1 locs1 ht hvm hw hB hz1 hk1 hS hc9 hv9 hf9 => ?_) (fun u t H1 locs1 ht hvm hw hB hz1 hk1 hS => hw.elim)
        obtain rfl := hB
        exact vx_out (fun x h => (htab x h).elim) hlocks hc9 hv9 hf9 (fun t2 ht2 _ => ⟨(), trivial, rfl, hS.F ht2⟩) hS.2.2 (Nat.le_of_ble_eq_true rfl) (Nat.le_of_ble_eq_true rfl)
      · refine lv_iload_n hx hb dX8_send_30 rfl (lv_at hl 2 rfl) ?_
        refine lv_bipush (v := 104) hx hb dX8_send_31 (by decide) ?_
        refine lv_icmp_eq (tgt := 46) hx hb dX8_send_33 (by decide) (fun c_12 => ?_) (fun c9 => (hk.elim c_1 (fun h => h.elim c_6 (fun h => h.elim c_8 c9))).elim)
        refine lv_iload_n hx hb dX8_send_46 rfl (lv_at hl 4 rfl) ?_
        refine lv_iconst (v := 1) hx hb dX8_send_47 (by decide) ?_
        refine lv_bipush (v := 99) hx hb dX8_send_48 (by decide) ?_
        have hPc := hP.sub (ws' := []) [] rfl
        have hDc := hD.sub (ws' := []) [] (by decide) rfl
        have hKc := hK.sub (tys' := []) [] rfl
        have hFc := va_free (wc := []) hD hS hA [] rfl
        refine va_callv (va_runS (As := [.int b, .int 1, .int 99]) (rest := []) ⟨hx, hb, hml, hown, hts⟩ (c_rqRg_y l dC dI E b 1 99 s.heap.size hla1 hua1) (va_cwS 3 hts gX8_send_X8_requireRange rfl rfl rfl (by decide +kernel) ⟨(Nat.le_of_ble_eq_true rfl), (Nat.le_of_ble_eq_true rfl)⟩) ⟨pre_blind, pre_call hPc hDc hKc hFc hE hZ hS⟩ rfl rfl hl.1 rfl (lv_room (Nat.le_of_ble_eq_true rfl)) dX8_send_50 ⟨(Nat.le_of_ble_eq_true rfl), (Nat.le_of_ble_eq_true rfl)⟩) hS (fun q _ h => hFc q h) hFc (fun u t H1 locs1 ht hvm hw hB hz1 hk1 hS => ?_)
        obtain ⟨hP, hD, hK⟩ := pst_join (wc := []) (wr := [(x, .inr (14, [.ref now, .ref fc])), (now, .inr (13, [.ref ro, .ref hto, .ref de, .ref cr, .ref co, .ref sh, .ref eo, .int 0, .int 0, .int 10, .int 100, .int 50, .int 0, .int 50])), (de, .inr (8, [.ref v0, .ref v1, .ref v2, .int 0, .int (-1)])), (hto, .inr (10, [.ref g0, .ref g1, .ref g2, .int 0]))]) (w1 := []) (tr := []) (t1 := []) hP hD hK [] [0, 1, 2, 3] [] rfl rfl rfl (by decide) (by decide) hk1 hFc ht hvm hB
        generalize H1 = H at hP hS ⊢
        have hP : va_P (dC, dI) vwCl [(x, .inr (14, [.ref now, .ref fc])), (now, .inr (13, [.ref ro, .ref hto, .ref de, .ref cr, .ref co, .ref sh, .ref eo, .int 0, .int 0, .int 10, .int 100, .int 50, .int 0, .int 50])), (de, .inr (8, [.ref v0, .ref v1, .ref v2, .int 0, .int (-1)])), (hto, .inr (10, [.ref g0, .ref g1, .ref g2, .int 0]))] H := hP
        have hD : va_D A [(x, .inr (14, [.ref now, .ref fc])), (now, .inr (13, [.ref ro, .ref hto, .ref de, .ref cr, .ref co, .ref sh, .ref eo, .int 0, .int 0, .int 10, .int 100, .int 50, .int 0, .int 50])), (de, .inr (8, [.ref v0, .ref v1, .ref v2, .int 0, .int (-1)])), (hto, .inr (10, [.ref g0, .ref g1, .ref g2, .int 0]))] := hD
        have hK : va_K (dC, dI) vwCl [] s := hK
        refine W.widen (k := 0) (n := 0) (Nat.le_of_ble_eq_true rfl) (Nat.le_of_ble_eq_true rfl) ?_
        refine lv_iload hx hb dX8_send_53 (lv_at hl 5 rfl) ?_
        refine lv_iconst (v := 0) hx hb dX8_send_55 (by decide) ?_
        refine lv_bipush (v := 99) hx hb dX8_send_56 (by decide) ?_
        have hPc := hP.sub (ws' := []) [] rfl
        have hDc := hD.sub (ws' := []) [] (by decide) rfl
        have hKc := hK.sub (tys' := []) [] rfl
        have hFc := va_free (wc := []) hD hS hA [] rfl
        refine va_callv (va_runS (As := [.int c4, .int 0, .int 99]) (rest := []) ⟨hx, hb, hml, hown, hts⟩ (c_rqRg_y l dC dI E c4 0 99 H.size hla2 hua2) (va_cwS 3 hts gX8_send_X8_requireRange rfl rfl rfl (by decide +kernel) ⟨(Nat.le_of_ble_eq_true rfl), (Nat.le_of_ble_eq_true rfl)⟩) ⟨pre_blind, pre_call hPc hDc hKc hFc hE hZ hS⟩ rfl rfl hl.1 rfl (lv_room (Nat.le_of_ble_eq_true rfl)) dX8_send_58 ⟨(Nat.le_of_ble_eq_true rfl), (Nat.le_of_ble_eq_true rfl)⟩) hS (fun q _ h => hFc q h) hFc (fun u t H1 locs1 ht hvm hw hB hz1 hk1 hS => ?_)
        obtain ⟨hP, hD, hK⟩ := pst_join (wc := []) (wr := [(x, .inr (14, [.ref now, .ref fc])), (now, .inr (13, [.ref ro, .ref hto, .ref de, .ref cr, .ref co, .ref sh, .ref eo, .int 0, .int 0, .int 10, .int 100, .int 50, .int 0, .int 50])), (de, .inr (8, [.ref v0, .ref v1, .ref v2, .int 0, .int (-1)])), (hto, .inr (10, [.ref g0, .ref g1, .ref g2, .int 0]))]) (w1 := []) (tr := []) (t1 := []) hP hD hK [] [0, 1, 2, 3] [] rfl rfl rfl (by decide) (by decide) hk1 hFc ht hvm hB
        generalize H1 = H at hP hS ⊢
        have hP : va_P (dC, dI) vwCl [(x, .inr (14, [.ref now, .ref fc])), (now, .inr (13, [.ref ro, .ref hto, .ref de, .ref cr, .ref co, .ref sh, .ref eo, .int 0, .int 0, .int 10, .int 100, .int 50, .int 0, .int 50])), (de, .inr (8, [.ref v0, .ref v1, .ref v2, .int 0, .int (-1)])), (hto, .inr (10, [.ref g0, .ref g1, .ref g2, .int 0]))] H := hP
        have hD : va_D A [(x, .inr (14, [.ref now, .ref fc])), (now, .inr (13, [.ref ro, .ref hto, .ref de, .ref cr, .ref co, .ref sh, .ref eo, .int 0, .int 0, .int 10, .int 100, .int 50, .int 0, .int 50])), (de, .inr (8, [.ref v0, .ref v1, .ref v2, .int 0, .int (-1)])), (hto, .inr (10, [.ref g0, .ref g1, .ref g2, .int 0]))] := hD
        have hK : va_K (dC, dI) vwCl [] s := hK
        refine W.widen (k := 0) (n := 0) (Nat.le_of_ble_eq_true rfl) (Nat.le_of_ble_eq_true rfl) ?_
        refine lv_iload_n hx hb dX8_send_61 rfl (lv_at hl 3 rfl) ?_
        refine lv_iload hx hb dX8_send_62 (lv_at hl 0 rfl) ?_
        refine lv_if_eq (tgt := 80) hx hb dX8_send_64 (by decide) (fun _ => ?_) (fun c9 => absurd (by decide) c9)
        refine lv_aload_n hx hb dX8_send_80 rfl (lv_at hl 1 rfl) ?_
        refine va_get (D := (dC, dI)) (ci := 14) (v := .ref now) (C := RX8) (T := TX8) (N := 2) hx hb hts (by decide +kernel) hown hK hP 0 rfl rfl 0 (by decide) (hts (.fieldLink RX8 14 "Orbitdock" "now" "LOrbitdock$Station;") (by decide +kernel)) (fun _ h9 => h9) rfl dX8_send_81 ?_
        refine va_get (D := (dC, dI)) (ci := 13) (v := .ref hto) (C := RX7) (T := TX7) (N := 14) hx hb hts (by decide +kernel) hown hK hP 1 rfl rfl 1 (by decide) (hts (.fieldLink RX8 58 "Orbitdock$Station" "hatches" "LOrbitdock$Hatches;") (by decide +kernel)) (fun _ h9 => h9) rfl dX8_send_84 ?_
        refine va_get (D := (dC, dI)) (ci := 10) (v := .int 0) (C := RX4) (T := TX4) (N := 4) hx hb hts (by decide +kernel) hown hK hP 3 rfl rfl 3 (by decide) (hts (.fieldLink RX8 70 "Orbitdock$Hatches" "count" "I") (by decide +kernel)) (fun _ h9 => h9) rfl dX8_send_87 ?_
        have hPc := hP.sub (ws' := []) [] rfl
        have hDc := hD.sub (ws' := []) [] (by decide) rfl
        have hKc := hK.sub (tys' := []) [] rfl
        have hFc := va_free (wc := []) hD hS hA [] rfl
        refine vx_callv (vx_runS (As := [.int a, .int 0]) (rest := []) ⟨hx, hb, hml, hown, hts⟩ (c_rqIx l hst dC dI E a H.size) (va_cwS 2 hts gX8_send_X8_requireIndex rfl rfl rfl (by decide +kernel) ⟨(Nat.le_of_ble_eq_true rfl), (Nat.le_of_ble_eq_true rfl)⟩) ⟨pre_blind, pre_call hPc hDc hKc hFc hE hZ hS⟩ rfl rfl hl.1 rfl (lv_room (Nat.le_of_ble_eq_true rfl)) dX8_send_90 ⟨(Nat.le_of_ble_eq_true rfl), (Nat.le_of_ble_eq_true rfl)⟩) hS (fun q _ h => hFc q h) hFc (fun q _ h => hFc q h) (fun E9 ce q9 u t H1 locs1 ht hvm hw hB hz1 hk1 hS hc9 hv9 hf9 => ?_) (fun u t H1 locs1 ht hvm hw hB hz1 hk1 hS => hw.elim)
        obtain rfl := hB
        exact vx_out (fun x h => (htab x h).elim) hlocks hc9 hv9 hf9 (fun t2 ht2 _ => ⟨(), trivial, rfl, hS.F ht2⟩) hS.2.2 (Nat.le_of_ble_eq_true rfl) (Nat.le_of_ble_eq_true rfl)
    · refine lv_iconst (v := 1) hx hb dX8_send_12 (by decide) ?_
      refine lv_goto (tgt := 17) hx hb dX8_send_13 (by decide) ?_
      refine lv_istore (lv' := [(5, .int 1), (0, .ref x), (1, .int k), (2, .int a), (3, .int b), (4, .int c4)]) hx hb dX8_send_17 hl (by decide) rfl (fun ls hl => ?_)
      refine lv_iload hx hb dX8_send_19 (lv_at hl 0 rfl) ?_
      refine lv_if_ne (tgt := 46) hx hb dX8_send_21 (by decide) (fun _ => ?_) (fun c9 => absurd c9 (by decide))
      refine lv_iload_n hx hb dX8_send_46 rfl (lv_at hl 4 rfl) ?_
      refine lv_iconst (v := 1) hx hb dX8_send_47 (by decide) ?_
      refine lv_bipush (v := 99) hx hb dX8_send_48 (by decide) ?_
      have hPc := hP.sub (ws' := []) [] rfl
      have hDc := hD.sub (ws' := []) [] (by decide) rfl
      have hKc := hK.sub (tys' := []) [] rfl
      have hFc := va_free (wc := []) hD hS hA [] rfl
      refine va_callv (va_runS (As := [.int b, .int 1, .int 99]) (rest := []) ⟨hx, hb, hml, hown, hts⟩ (c_rqRg_y l dC dI E b 1 99 s.heap.size hla1 hua1) (va_cwS 3 hts gX8_send_X8_requireRange rfl rfl rfl (by decide +kernel) ⟨(Nat.le_of_ble_eq_true rfl), (Nat.le_of_ble_eq_true rfl)⟩) ⟨pre_blind, pre_call hPc hDc hKc hFc hE hZ hS⟩ rfl rfl hl.1 rfl (lv_room (Nat.le_of_ble_eq_true rfl)) dX8_send_50 ⟨(Nat.le_of_ble_eq_true rfl), (Nat.le_of_ble_eq_true rfl)⟩) hS (fun q _ h => hFc q h) hFc (fun u t H1 locs1 ht hvm hw hB hz1 hk1 hS => ?_)
      obtain ⟨hP, hD, hK⟩ := pst_join (wc := []) (wr := [(x, .inr (14, [.ref now, .ref fc])), (now, .inr (13, [.ref ro, .ref hto, .ref de, .ref cr, .ref co, .ref sh, .ref eo, .int 0, .int 0, .int 10, .int 100, .int 50, .int 0, .int 50])), (de, .inr (8, [.ref v0, .ref v1, .ref v2, .int 0, .int (-1)])), (hto, .inr (10, [.ref g0, .ref g1, .ref g2, .int 0]))]) (w1 := []) (tr := []) (t1 := []) hP hD hK [] [0, 1, 2, 3] [] rfl rfl rfl (by decide) (by decide) hk1 hFc ht hvm hB
      generalize H1 = H at hP hS ⊢
      have hP : va_P (dC, dI) vwCl [(x, .inr (14, [.ref now, .ref fc])), (now, .inr (13, [.ref ro, .ref hto, .ref de, .ref cr, .ref co, .ref sh, .ref eo, .int 0, .int 0, .int 10, .int 100, .int 50, .int 0, .int 50])), (de, .inr (8, [.ref v0, .ref v1, .ref v2, .int 0, .int (-1)])), (hto, .inr (10, [.ref g0, .ref g1, .ref g2, .int 0]))] H := hP
      have hD : va_D A [(x, .inr (14, [.ref now, .ref fc])), (now, .inr (13, [.ref ro, .ref hto, .ref de, .ref cr, .ref co, .ref sh, .ref eo, .int 0, .int 0, .int 10, .int 100, .int 50, .int 0, .int 50])), (de, .inr (8, [.ref v0, .ref v1, .ref v2, .int 0, .int (-1)])), (hto, .inr (10, [.ref g0, .ref g1, .ref g2, .int 0]))] := hD
      have hK : va_K (dC, dI) vwCl [] s := hK
      refine W.widen (k := 0) (n := 0) (Nat.le_of_ble_eq_true rfl) (Nat.le_of_ble_eq_true rfl) ?_
      refine lv_iload hx hb dX8_send_53 (lv_at hl 5 rfl) ?_
      refine lv_iconst (v := 0) hx hb dX8_send_55 (by decide) ?_
      refine lv_bipush (v := 99) hx hb dX8_send_56 (by decide) ?_
      have hPc := hP.sub (ws' := []) [] rfl
      have hDc := hD.sub (ws' := []) [] (by decide) rfl
      have hKc := hK.sub (tys' := []) [] rfl
      have hFc := va_free (wc := []) hD hS hA [] rfl
      refine va_callv (va_runS (As := [.int c4, .int 0, .int 99]) (rest := []) ⟨hx, hb, hml, hown, hts⟩ (c_rqRg_y l dC dI E c4 0 99 H.size hla2 hua2) (va_cwS 3 hts gX8_send_X8_requireRange rfl rfl rfl (by decide +kernel) ⟨(Nat.le_of_ble_eq_true rfl), (Nat.le_of_ble_eq_true rfl)⟩) ⟨pre_blind, pre_call hPc hDc hKc hFc hE hZ hS⟩ rfl rfl hl.1 rfl (lv_room (Nat.le_of_ble_eq_true rfl)) dX8_send_58 ⟨(Nat.le_of_ble_eq_true rfl), (Nat.le_of_ble_eq_true rfl)⟩) hS (fun q _ h => hFc q h) hFc (fun u t H1 locs1 ht hvm hw hB hz1 hk1 hS => ?_)
      obtain ⟨hP, hD, hK⟩ := pst_join (wc := []) (wr := [(x, .inr (14, [.ref now, .ref fc])), (now, .inr (13, [.ref ro, .ref hto, .ref de, .ref cr, .ref co, .ref sh, .ref eo, .int 0, .int 0, .int 10, .int 100, .int 50, .int 0, .int 50])), (de, .inr (8, [.ref v0, .ref v1, .ref v2, .int 0, .int (-1)])), (hto, .inr (10, [.ref g0, .ref g1, .ref g2, .int 0]))]) (w1 := []) (tr := []) (t1 := []) hP hD hK [] [0, 1, 2, 3] [] rfl rfl rfl (by decide) (by decide) hk1 hFc ht hvm hB
      generalize H1 = H at hP hS ⊢
      have hP : va_P (dC, dI) vwCl [(x, .inr (14, [.ref now, .ref fc])), (now, .inr (13, [.ref ro, .ref hto, .ref de, .ref cr, .ref co, .ref sh, .ref eo, .int 0, .int 0, .int 10, .int 100, .int 50, .int 0, .int 50])), (de, .inr (8, [.ref v0, .ref v1, .ref v2, .int 0, .int (-1)])), (hto, .inr (10, [.ref g0, .ref g1, .ref g2, .int 0]))] H := hP
      have hD : va_D A [(x, .inr (14, [.ref now, .ref fc])), (now, .inr (13, [.ref ro, .ref hto, .ref de, .ref cr, .ref co, .ref sh, .ref eo, .int 0, .int 0, .int 10, .int 100, .int 50, .int 0, .int 50])), (de, .inr (8, [.ref v0, .ref v1, .ref v2, .int 0, .int (-1)])), (hto, .inr (10, [.ref g0, .ref g1, .ref g2, .int 0]))] := hD
      have hK : va_K (dC, dI) vwCl [] s := hK
      refine W.widen (k := 0) (n := 0) (Nat.le_of_ble_eq_true rfl) (Nat.le_of_ble_eq_true rfl) ?_
      refine lv_iload_n hx hb dX8_send_61 rfl (lv_at hl 3 rfl) ?_
      refine lv_iload hx hb dX8_send_62 (lv_at hl 0 rfl) ?_
      refine lv_if_eq (tgt := 80) hx hb dX8_send_64 (by decide) (fun c9 => absurd c9 (by decide)) (fun _ => ?_)
      refine lv_aload_n hx hb dX8_send_67 rfl (lv_at hl 1 rfl) ?_
      refine va_get (D := (dC, dI)) (ci := 14) (v := .ref now) (C := RX8) (T := TX8) (N := 2) hx hb hts (by decide +kernel) hown hK hP 0 rfl rfl 0 (by decide) (hts (.fieldLink RX8 14 "Orbitdock" "now" "LOrbitdock$Station;") (by decide +kernel)) (fun _ h9 => h9) rfl dX8_send_68 ?_
      refine va_get (D := (dC, dI)) (ci := 13) (v := .ref de) (C := RX7) (T := TX7) (N := 14) hx hb hts (by decide +kernel) hown hK hP 1 rfl rfl 2 (by decide) (hts (.fieldLink RX8 87 "Orbitdock$Station" "devices" "LOrbitdock$Devices;") (by decide +kernel)) (fun _ h9 => h9) rfl dX8_send_71 ?_
      refine va_get (D := (dC, dI)) (ci := 8) (v := .int 0) (C := RX2) (T := TX2) (N := 5) hx hb hts (by decide +kernel) hown hK hP 2 rfl rfl 3 (by decide) (hts (.fieldLink RX8 99 "Orbitdock$Devices" "count" "I") (by decide +kernel)) (fun _ h9 => h9) rfl dX8_send_74 ?_
      refine lv_goto (tgt := 90) hx hb dX8_send_77 (by decide) ?_
      have hPc := hP.sub (ws' := []) [] rfl
      have hDc := hD.sub (ws' := []) [] (by decide) rfl
      have hKc := hK.sub (tys' := []) [] rfl
      have hFc := va_free (wc := []) hD hS hA [] rfl
      refine vx_callv (vx_runS (As := [.int a, .int 0]) (rest := []) ⟨hx, hb, hml, hown, hts⟩ (c_rqIx l hst dC dI E a H.size) (va_cwS 2 hts gX8_send_X8_requireIndex rfl rfl rfl (by decide +kernel) ⟨(Nat.le_of_ble_eq_true rfl), (Nat.le_of_ble_eq_true rfl)⟩) ⟨pre_blind, pre_call hPc hDc hKc hFc hE hZ hS⟩ rfl rfl hl.1 rfl (lv_room (Nat.le_of_ble_eq_true rfl)) dX8_send_90 ⟨(Nat.le_of_ble_eq_true rfl), (Nat.le_of_ble_eq_true rfl)⟩) hS (fun q _ h => hFc q h) hFc (fun q _ h => hFc q h) (fun E9 ce q9 u t H1 locs1 ht hvm hw hB hz1 hk1 hS hc9 hv9 hf9 => ?_) (fun u t H1 locs1 ht hvm hw hB hz1 hk1 hS => hw.elim)
      obtain rfl := hB
      exact vx_out (fun x h => (htab x h).elim) hlocks hc9 hv9 hf9 (fun t2 ht2 _ => ⟨(), trivial, rfl, hS.F ht2⟩) hS.2.2 (Nat.le_of_ble_eq_true rfl) (Nat.le_of_ble_eq_true rfl)

set_option maxHeartbeats 4000000 in
set_option maxRecDepth 100000 in
theorem c_cx_send_n1 (l : Launch) (hst : l.stackTraces = false) (dC : Nat → ClassId) (dI : Nat → Nat → Nat) (E : Nat → Nat) (x : Nat) (k : Int32) (a : Int32) (b : Int32) (c4 : Int32) (sz : Nat) (hk : ¬ (k = 110 ∨ k = 102 ∨ k = 111 ∨ k = 104)) : vx_Met l yX8_send wsX8_send ({ frames := 6, cells := 1, slots := 6, locals := 82 }) (va_Pc [.ref x, .int k, .int a, .int b, .int c4] (pre dC dI E [] [] sz)) (va_Qi (fun (_ : Int32) (_ : Unit) => False) (fun _ _ => True) (va_A [] sz)) (vx_X (fun _ : Unit => True) (fun E9 _ _ => E9 = "java/lang/IllegalArgumentException") (va_A [] sz)) 1 6 (va_A [] sz) := by
  refine vx_ofW (cc := cX8_send) (maxL := 6) (ret := (some .int)) (by decide) rfl ?_
  intro p e s m args below meth c s₁ B hml htab hv
  obtain ⟨rfl, hsz, hP, hK, hD0, hE, hZ0⟩ := hv
  have hx := B.exec
  have hb := B.bytes
  have hr := B.returns
  have hts := atoms_spec (ws := wsX8_send) B.pre
  have hown : s.vm.findClass RX8 = some m.cls := findClass_of_methodNamed B.named
  have hlocks := B.notSynchronized
  subst hsz
  have hD := hD0.self (sz := s.heap.size)
  generalize hAe : va_A [] s.heap.size = A at hD hZ0 ⊢
  have hZ := hZ0
  have hA : ∀ q : Nat, s.heap.size ≤ q → A q := fun q h => by rw [← hAe]; exact Or.inr h
  have hS : va_S A s.heap s.heap [] := va_S.rf
  have hP : va_P (dC, dI) vwCl [] s.heap := hP
  have hl := lv_entry ([.ref x, .int k, .int a, .int b, .int c4]) (n := 6) (Nat.le_of_ble_eq_true rfl)
  rw [lg_entry_eq]
  generalize (lg_sl ([.ref x, .int k, .int a, .int b, .int c4]) ++ List.replicate (6 - (lg_sl ([.ref x, .int k, .int a, .int b, .int c4])).length) Slot.unset).toArray = ls at hl ⊢
  have hl : lv_has ls 6 [(0, .ref x), (1, .int k), (2, .int a), (3, .int b), (4, .int c4)] := hl
  refine lv_iload_n hx hb dX8_send_0 rfl (lv_at hl 1 rfl) ?_
  refine lv_bipush (v := 110) hx hb dX8_send_1 (by decide) ?_
  refine lv_icmp_eq (tgt := 12) hx hb dX8_send_3 (by decide) (fun c9 => (hk (Or.inl c9)).elim) (fun c_1 => ?_)
  refine lv_iload_n hx hb dX8_send_6 rfl (lv_at hl 1 rfl) ?_
  refine lv_bipush (v := 102) hx hb dX8_send_7 (by decide) ?_
  refine lv_icmp_ne (tgt := 16) hx hb dX8_send_9 (by decide) (fun c_2 => ?_) (fun c9 => (hk (Or.inr (Or.inl c9))).elim)
  refine lv_iconst (v := 0) hx hb dX8_send_16 (by decide) ?_
  refine lv_istore (lv' := [(5, .int 0), (0, .ref x), (1, .int k), (2, .int a), (3, .int b), (4, .int c4)]) hx hb dX8_send_17 hl (by decide) rfl (fun ls hl => ?_)
  refine lv_iload hx hb dX8_send_19 (lv_at hl 0 rfl) ?_
  refine lv_if_ne (tgt := 46) hx hb dX8_send_21 (by decide) (fun c9 => absurd (by decide) c9) (fun _ => ?_)
  refine lv_iload_n hx hb dX8_send_24 rfl (lv_at hl 2 rfl) ?_
  refine lv_bipush (v := 111) hx hb dX8_send_25 (by decide) ?_
  refine lv_icmp_eq (tgt := 46) hx hb dX8_send_27 (by decide) (fun c9 => (hk (Or.inr (Or.inr (Or.inl c9)))).elim) (fun c_4 => ?_)
  refine lv_iload_n hx hb dX8_send_30 rfl (lv_at hl 2 rfl) ?_
  refine lv_bipush (v := 104) hx hb dX8_send_31 (by decide) ?_
  refine lv_icmp_eq (tgt := 46) hx hb dX8_send_33 (by decide) (fun c9 => (hk (Or.inr (Or.inr (Or.inr c9)))).elim) (fun c_5 => ?_)
  have hat : ∀ w ∈ vx_atS RX8 57 "java/lang/IllegalArgumentException" ["java/lang/RuntimeException", "java/lang/Exception"], w.before ([.ref x, .int k, .int a, .int b, .int c4] : List Value).toArray s = true := vx_hat (B := xB "java/lang/IllegalArgumentException") (fun w h => hts w (List.mem_cons_of_mem _ (List.mem_append_left _ (List.mem_append_left _ (List.mem_append_left _ (List.mem_append_left _ (List.mem_append_right _ h))))))) (by decide +kernel) (xB_ok hE hE.2.2.1.2.1)
  exact vx_throwS (own := RX8) (cls := "java/lang/IllegalArgumentException") (text := "no such kind of command") (names := ["java/lang/RuntimeException", "java/lang/Exception"]) (A := A) hx hb hst hown (by decide +kernel) (by decide +kernel) (hts (.classLink RX8 53 "java/lang/IllegalArgumentException") (by decide +kernel)) (hts (.initialized "java/lang/IllegalArgumentException") (by decide +kernel)) hE.2.1.2.2.2.1 hat (by decide +kernel) hZ.2.1.1 hZ.2.1.2 hS (by rw [hml]; exact hl.1) dX8_send_36 dX8_send_39 dX8_send_40 dX8_send_42 dX8_send_45 (fun x h => (htab x h).elim) (Nat.le_of_ble_eq_true rfl) (Nat.le_of_ble_eq_true rfl) (Nat.le_of_ble_eq_true rfl) (Nat.le_of_ble_eq_true rfl) hlocks (fun t hv hz hq => ⟨(), trivial, rfl, ⟨Nat.le_trans hS.1 hz, fun q h1 h2 => (hq q (Nat.lt_of_lt_of_le h1 hS.1)).trans (hS.2.1 q h1 h2)⟩⟩) hS.2.2 (Nat.le_of_ble_eq_true rfl) (Nat.le_of_ble_eq_true rfl)

set_option maxHeartbeats 4000000 in
set_option maxRecDepth 100000 in
theorem c_isInSun (l : Launch) (dC : Nat → ClassId) (dI : Nat → Nat → Nat) (E : Nat → Nat) (now : Nat) (ro : Nat) (hto : Nat) (de : Nat) (cr : Nat) (co : Nat) (sh : Nat) (eo : Nat) (mi : Int32) (bt : Int32) (sz : Nat) : Met l yX7_isInSun wsX7_isInSun ({ frames := 0, cells := 0, slots := 0, locals := 0 }) (va_Pc [.ref now] (pre dC dI E [(now, .inr (13, [.ref ro, .ref hto, .ref de, .ref cr, .ref co, .ref sh, .ref eo, .int mi, .int 0, .int 10, .int bt, .int 50, .int 0, .int 50]))] [] sz)) (va_Qi (fun (r : Int32) (_ : Unit) => True) (fun _ t => pst dC dI (va_A [(now, .inr (13, [.ref ro, .ref hto, .ref de, .ref cr, .ref co, .ref sh, .ref eo, .int mi, .int 0, .int 10, .int bt, .int 50, .int 0, .int 50]))] sz) [(now, .inr (13, [.ref ro, .ref hto, .ref de, .ref cr, .ref co, .ref sh, .ref eo, .int mi, .int 0, .int 10, .int bt, .int 50, .int 0, .int 50]))] [] t) (va_A [(now, .inr (13, [.ref ro, .ref hto, .ref de, .ref cr, .ref co, .ref sh, .ref eo, .int mi, .int 0, .int 10, .int bt, .int 50, .int 0, .int 50]))] sz)) 0 0 (va_A [(now, .inr (13, [.ref ro, .ref hto, .ref de, .ref cr, .ref co, .ref sh, .ref eo, .int mi, .int 0, .int 10, .int bt, .int 50, .int 0, .int 50]))] sz) := by
  refine Met.ofW (cc := cX7_isInSun) (maxL := 1) (ret := (some .boolean)) (by decide) rfl ?_
  intro p e s m args below meth c s₁ B hml hv
  obtain ⟨rfl, hsz, hP, hK, hD0, hE, hZ0⟩ := hv
  have hx := B.exec
  have hb := B.bytes
  have hr := B.returns
  have hts := atoms_spec (ws := wsX7_isInSun) B.pre
  have hown : s.vm.findClass RX7 = some m.cls := findClass_of_methodNamed B.named
  have hlocks := B.notSynchronized
  subst hsz
  have hD := hD0.self (sz := s.heap.size)
  generalize hAe : va_A [(now, .inr (13, [.ref ro, .ref hto, .ref de, .ref cr, .ref co, .ref sh, .ref eo, .int mi, .int 0, .int 10, .int bt, .int 50, .int 0, .int 50]))] s.heap.size = A at hD hZ0 ⊢
  have hZ := hZ0
  have hA : ∀ q : Nat, s.heap.size ≤ q → A q := fun q h => by rw [← hAe]; exact Or.inr h
  have hS : va_S A s.heap s.heap [] := va_S.rf
  have hP : va_P (dC, dI) vwCl [(now, .inr (13, [.ref ro, .ref hto, .ref de, .ref cr, .ref co, .ref sh, .ref eo, .int mi, .int 0, .int 10, .int bt, .int 50, .int 0, .int 50]))] s.heap := hP
  have hl := lv_entry ([.ref now]) (n := 1) (Nat.le_of_ble_eq_true rfl)
  rw [lg_entry_eq]
  generalize (lg_sl ([.ref now]) ++ List.replicate (1 - (lg_sl ([.ref now])).length) Slot.unset).toArray = ls at hl ⊢
  have hl : lv_has ls 1 [(0, .ref now)] := hl
  refine lv_aload_n hx hb dX7_isInSun_0 rfl (lv_at hl 0 rfl) ?_
  refine va_get (D := (dC, dI)) (ci := 13) (v := .int mi) (C := RX7) (T := TX7) (N := 14) hx hb hts (by decide +kernel) hown hK hP 0 rfl rfl 7 (by decide) (hts (.fieldLink RX7 94 "Orbitdock$Station" "minute" "I") (by decide +kernel)) (fun _ h9 => h9) rfl dX7_isInSun_1 ?_
  refine lv_bipush (v := 90) hx hb dX7_isInSun_4 (by decide) ?_
  refine lv_irem hx hb dX7_isInSun_6 (by decide) ?_
  refine lv_bipush (v := 60) hx hb dX7_isInSun_7 (by decide) ?_
  refine lv_icmp_ge (tgt := 16) hx hb dX7_isInSun_9 (by decide) (fun c_1 => ?_) (fun c_1 => ?_)
  · refine lv_iconst (v := 0) hx hb dX7_isInSun_16 (by decide) ?_
    have hP9 := hP.sub (ws' := [(now, .inr (13, [.ref ro, .ref hto, .ref de, .ref cr, .ref co, .ref sh, .ref eo, .int mi, .int 0, .int 10, .int bt, .int 50, .int 0, .int 50]))]) [0] rfl
    have hD9 := hD.sub (ws' := [(now, .inr (13, [.ref ro, .ref hto, .ref de, .ref cr, .ref co, .ref sh, .ref eo, .int mi, .int 0, .int 10, .int bt, .int 50, .int 0, .int 50]))]) [0] (by decide) rfl
    have hK9 := hK.sub (tys' := []) [] rfl
    refine W.widen (k := 0) (n := 0) (Nat.le_of_ble_eq_true rfl) (Nat.le_of_ble_eq_true rfl) ?_
    exact W.zret (v := 0) hx hb hr rfl (fun t ht hW => ⟨⟨0, (), rfl, trivial, pst_of hP9 hD9 hK9 ht hW⟩, hS.F ht⟩) hS.2.2 dX7_isInSun_17
  · refine lv_iconst (v := 1) hx hb dX7_isInSun_12 (by decide) ?_
    refine lv_goto (tgt := 17) hx hb dX7_isInSun_13 (by decide) ?_
    have hP9 := hP.sub (ws' := [(now, .inr (13, [.ref ro, .ref hto, .ref de, .ref cr, .ref co, .ref sh, .ref eo, .int mi, .int 0, .int 10, .int bt, .int 50, .int 0, .int 50]))]) [0] rfl
    have hD9 := hD.sub (ws' := [(now, .inr (13, [.ref ro, .ref hto, .ref de, .ref cr, .ref co, .ref sh, .ref eo, .int mi, .int 0, .int 10, .int bt, .int 50, .int 0, .int 50]))]) [0] (by decide) rfl
    have hK9 := hK.sub (tys' := []) [] rfl
    refine W.widen (k := 0) (n := 0) (Nat.le_of_ble_eq_true rfl) (Nat.le_of_ble_eq_true rfl) ?_
    exact W.zret (v := 1) hx hb hr rfl (fun t ht hW => ⟨⟨1, (), rfl, trivial, pst_of hP9 hD9 hK9 ht hW⟩, hS.F ht⟩) hS.2.2 dX7_isInSun_17

set_option maxHeartbeats 4000000 in
set_option maxRecDepth 100000 in
theorem c_handle (l : Launch) (dC : Nat → ClassId) (dI : Nat → Nat → Nat) (E : Nat → Nat) (now : Nat) (ro : Nat) (hto : Nat) (de : Nat) (cr : Nat) (co : Nat) (sh : Nat) (eo : Nat) (mi : Int32) (bt : Int32) (k0 : Nat) (k1 : Nat) (k2 : Nat) (k3 : Nat) (sz : Nat) : Met l yX7_handleCommands wsX7_handleCommands ({ frames := 0, cells := 0, slots := 0, locals := 0 }) (va_Pc [.ref now] (pre dC dI E [(now, .inr (13, [.ref ro, .ref hto, .ref de, .ref cr, .ref co, .ref sh, .ref eo, .int mi, .int 0, .int 10, .int bt, .int 50, .int 0, .int 50])), (co, .inr (6, [.ref k0, .ref k1, .ref k2, .ref k3, .int 0]))] [] sz)) (va_Qv (fun _ : Unit => True) (fun _ t => pst dC dI (va_A [(now, .inr (13, [.ref ro, .ref hto, .ref de, .ref cr, .ref co, .ref sh, .ref eo, .int mi, .int 0, .int 10, .int bt, .int 50, .int 0, .int 50])), (co, .inr (6, [.ref k0, .ref k1, .ref k2, .ref k3, .int 0]))] sz) [(now, .inr (13, [.ref ro, .ref hto, .ref de, .ref cr, .ref co, .ref sh, .ref eo, .int mi, .int 0, .int 10, .int bt, .int 50, .int 0, .int 50])), (co, .inr (6, [.ref k0, .ref k1, .ref k2, .ref k3, .int 0]))] [] t) (va_A [(now, .inr (13, [.ref ro, .ref hto, .ref de, .ref cr, .ref co, .ref sh, .ref eo, .int mi, .int 0, .int 10, .int bt, .int 50, .int 0, .int 50])), (co, .inr (6, [.ref k0, .ref k1, .ref k2, .ref k3, .int 0]))] sz)) 0 0 (va_A [(now, .inr (13, [.ref ro, .ref hto, .ref de, .ref cr, .ref co, .ref sh, .ref eo, .int mi, .int 0, .int 10, .int bt, .int 50, .int 0, .int 50])), (co, .inr (6, [.ref k0, .ref k1, .ref k2, .ref k3, .int 0]))] sz) := by
  refine Met.ofW (cc := cX7_handleCommands) (maxL := 3) (ret := none) (by decide) rfl ?_
  intro p e s m args below meth c s₁ B hml hv
  obtain ⟨rfl, hsz, hP, hK, hD0, hE, hZ0⟩ := hv
  have hx := B.exec
  have hb := B.bytes
  have hr := B.returns
  have hts := atoms_spec (ws := wsX7_handleCommands) B.pre
  have hown : s.vm.findClass RX7 = some m.cls := findClass_of_methodNamed B.named
  have hlocks := B.notSynchronized
  subst hsz
  have hD := hD0.self (sz := s.heap.size)
  generalize hAe : va_A [(now, .inr (13, [.ref ro, .ref hto, .ref de, .ref cr, .ref co, .ref sh, .ref eo, .int mi, .int 0, .int 10, .int bt, .int 50, .int 0, .int 50])), (co, .inr (6, [.ref k0, .ref k1, .ref k2, .ref k3, .int 0]))] s.heap.size = A at hD hZ0 ⊢
  have hZ := hZ0
  have hA : ∀ q : Nat, s.heap.size ≤ q → A q := fun q h => by rw [← hAe]; exact Or.inr h
  have hS : va_S A s.heap s.heap [] := va_S.rf
  have hP : va_P (dC, dI) vwCl [(now, .inr (13, [.ref ro, .ref hto, .ref de, .ref cr, .ref co, .ref sh, .ref eo, .int mi, .int 0, .int 10, .int bt, .int 50, .int 0, .int 50])), (co, .inr (6, [.ref k0, .ref k1, .ref k2, .ref k3, .int 0]))] s.heap := hP
  have hl := lv_entry ([.ref now]) (n := 3) (Nat.le_of_ble_eq_true rfl)
  rw [lg_entry_eq]
  generalize (lg_sl ([.ref now]) ++ List.replicate (3 - (lg_sl ([.ref now])).length) Slot.unset).toArray = ls at hl ⊢
  have hl : lv_has ls 3 [(0, .ref now)] := hl
  refine lv_iconst (v := 0) hx hb dX7_handleCommands_0 (by decide) ?_
  refine lv_istore_n (lv' := [(1, .int 0), (0, .ref now)]) hx hb dX7_handleCommands_1 rfl hl (by decide) rfl (fun ls hl => ?_)
  refine lv_iconst (v := 0) hx hb dX7_handleCommands_2 (by decide) ?_
  refine lv_istore_n (lv' := [(2, .int 0), (1, .int 0), (0, .ref now)]) hx hb dX7_handleCommands_3 rfl hl (by decide) rfl (fun ls hl => ?_)
  refine lv_iload_n hx hb dX7_handleCommands_4 rfl (lv_at hl 0 rfl) ?_
  refine lv_aload_n hx hb dX7_handleCommands_5 rfl (lv_at hl 2 rfl) ?_
  refine va_get (D := (dC, dI)) (ci := 13) (v := .ref co) (C := RX7) (T := TX7) (N := 14) hx hb hts (by decide +kernel) hown hK hP 0 rfl rfl 4 (by decide) (hts (.fieldLink RX7 42 "Orbitdock$Station" "commands" "LOrbitdock$Commands;") (by decide +kernel)) (fun _ h9 => h9) rfl dX7_handleCommands_6 ?_
  refine va_get (D := (dC, dI)) (ci := 6) (v := .int 0) (C := RX0) (T := TX0) (N := 5) hx hb hts (by decide +kernel) hown hK hP 1 rfl rfl 4 (by decide) (hts (.fieldLink RX7 144 "Orbitdock$Commands" "count" "I") (by decide +kernel)) (fun _ h9 => h9) rfl dX7_handleCommands_9 ?_
  refine lv_icmp_ge (tgt := 116) hx hb dX7_handleCommands_12 (by decide) (fun _ => ?_) (fun c9 => absurd (by decide) c9)
  refine lv_aload_n hx hb dX7_handleCommands_116 rfl (lv_at hl 2 rfl) ?_
  refine va_get (D := (dC, dI)) (ci := 13) (v := .ref co) (C := RX7) (T := TX7) (N := 14) hx hb hts (by decide +kernel) hown hK hP 0 rfl rfl 4 (by decide) (hts (.fieldLink RX7 42 "Orbitdock$Station" "commands" "LOrbitdock$Commands;") (by decide +kernel)) (fun _ h9 => h9) rfl dX7_handleCommands_117 ?_
  refine lv_iload_n hx hb dX7_handleCommands_120 rfl (lv_at hl 1 rfl) ?_
  refine va_put (D := (dC, dI)) (ci := 6) (v := .int 0) (ty := .int) (C := RX0) (T := TX0) (N := 5) hx hb hts (by decide +kernel) tyX0 tyX0_ok nmX0 hown hK hP hD hS 1 rfl rfl 4 (by decide) (hts (.fieldLink RX7 144 "Orbitdock$Commands" "count" "I") (by decide +kernel)) (fun _ h9 => h9) rfl (by decide +kernel) rfl rfl (Nat.le_of_ble_eq_true rfl) dX7_handleCommands_121 (fun H locs hP hD hS => ?_)
  have hP : va_P (dC, dI) vwCl [(now, .inr (13, [.ref ro, .ref hto, .ref de, .ref cr, .ref co, .ref sh, .ref eo, .int mi, .int 0, .int 10, .int bt, .int 50, .int 0, .int 50])), (co, .inr (6, [.ref k0, .ref k1, .ref k2, .ref k3, .int 0]))] H := hP
  have hD : va_D A [(now, .inr (13, [.ref ro, .ref hto, .ref de, .ref cr, .ref co, .ref sh, .ref eo, .int mi, .int 0, .int 10, .int bt, .int 50, .int 0, .int 50])), (co, .inr (6, [.ref k0, .ref k1, .ref k2, .ref k3, .int 0]))] := hD
  have hP9 := hP.sub (ws' := [(now, .inr (13, [.ref ro, .ref hto, .ref de, .ref cr, .ref co, .ref sh, .ref eo, .int mi, .int 0, .int 10, .int bt, .int 50, .int 0, .int 50])), (co, .inr (6, [.ref k0, .ref k1, .ref k2, .ref k3, .int 0]))]) [0, 1] rfl
  have hD9 := hD.sub (ws' := [(now, .inr (13, [.ref ro, .ref hto, .ref de, .ref cr, .ref co, .ref sh, .ref eo, .int mi, .int 0, .int 10, .int bt, .int 50, .int 0, .int 50])), (co, .inr (6, [.ref k0, .ref k1, .ref k2, .ref k3, .int 0]))]) [0, 1] (by decide) rfl
  have hK9 := hK.sub (tys' := []) [] rfl
  refine W.widen (k := 0) (n := 0) (Nat.le_of_ble_eq_true rfl) (Nat.le_of_ble_eq_true rfl) ?_
  exact W.vret hx hb hr (fun t ht hW => ⟨⟨(), rfl, trivial, pst_of hP9 hD9 hK9 ht hW⟩, hS.F ht⟩) hS.2.2 dX7_handleCommands_124

set_option maxHeartbeats 4000000 in
set_option maxRecDepth 100000 in
theorem c_advance (l : Launch) (dC : Nat → ClassId) (dI : Nat → Nat → Nat) (E : Nat → Nat) (sh : Nat) (eo : Nat) (p0 : Nat) (p1 : Nat) (p2 : Nat) (p3 : Nat) (p4 : Nat) (sz : Nat) : Met l yX6_advance wsX6_advance ({ frames := 0, cells := 0, slots := 0, locals := 0 }) (va_Pc [.ref sh, .ref eo] (pre dC dI E [(sh, .inr (12, [.ref p0, .ref p1, .ref p2, .ref p3, .ref p4, .int 0]))] [] sz)) (va_Qi (fun (r : Int32) (_ : Unit) => r = 0) (fun _ t => pst dC dI (va_A [(sh, .inr (12, [.ref p0, .ref p1, .ref p2, .ref p3, .ref p4, .int 0]))] sz) [(sh, .inr (12, [.ref p0, .ref p1, .ref p2, .ref p3, .ref p4, .int 0]))] [] t) (va_A [(sh, .inr (12, [.ref p0, .ref p1, .ref p2, .ref p3, .ref p4, .int 0]))] sz)) 0 0 (va_A [(sh, .inr (12, [.ref p0, .ref p1, .ref p2, .ref p3, .ref p4, .int 0]))] sz) := by
  refine Met.ofW (cc := cX6_advance) (maxL := 4) (ret := (some .int)) (by decide) rfl ?_
  intro p e s m args below meth c s₁ B hml hv
  obtain ⟨rfl, hsz, hP, hK, hD0, hE, hZ0⟩ := hv
  have hx := B.exec
  have hb := B.bytes
  have hr := B.returns
  have hts := atoms_spec (ws := wsX6_advance) B.pre
  have hown : s.vm.findClass RX6 = some m.cls := findClass_of_methodNamed B.named
  have hlocks := B.notSynchronized
  subst hsz
  have hD := hD0.self (sz := s.heap.size)
  generalize hAe : va_A [(sh, .inr (12, [.ref p0, .ref p1, .ref p2, .ref p3, .ref p4, .int 0]))] s.heap.size = A at hD hZ0 ⊢
  have hZ := hZ0
  have hA : ∀ q : Nat, s.heap.size ≤ q → A q := fun q h => by rw [← hAe]; exact Or.inr h
  have hS : va_S A s.heap s.heap [] := va_S.rf
  have hP : va_P (dC, dI) vwCl [(sh, .inr (12, [.ref p0, .ref p1, .ref p2, .ref p3, .ref p4, .int 0]))] s.heap := hP
  have hl := lv_entry ([.ref sh, .ref eo]) (n := 4) (Nat.le_of_ble_eq_true rfl)
  rw [lg_entry_eq]
  generalize (lg_sl ([.ref sh, .ref eo]) ++ List.replicate (4 - (lg_sl ([.ref sh, .ref eo])).length) Slot.unset).toArray = ls at hl ⊢
  have hl : lv_has ls 4 [(0, .ref sh), (1, .ref eo)] := hl
  refine lv_iconst (v := 0) hx hb dX6_advance_0 (by decide) ?_
  refine lv_istore_n (lv' := [(2, .int 0), (0, .ref sh), (1, .ref eo)]) hx hb dX6_advance_1 rfl hl (by decide) rfl (fun ls hl => ?_)
  refine lv_iconst (v := 0) hx hb dX6_advance_2 (by decide) ?_
  refine lv_istore_n (lv' := [(3, .int 0), (2, .int 0), (0, .ref sh), (1, .ref eo)]) hx hb dX6_advance_3 rfl hl (by decide) rfl (fun ls hl => ?_)
  refine lv_iload_n hx hb dX6_advance_4 rfl (lv_at hl 0 rfl) ?_
  refine lv_aload_n hx hb dX6_advance_5 rfl (lv_at hl 2 rfl) ?_
  refine va_get (D := (dC, dI)) (ci := 12) (v := .int 0) (C := RX6) (T := TX6) (N := 6) hx hb hts (by decide +kernel) hown hK hP 0 rfl rfl 5 (by decide) (hts (.fieldLink RX6 28 "Orbitdock$Ships" "count" "I") (by decide +kernel)) (fun _ h9 => h9) rfl dX6_advance_6 ?_
  refine lv_icmp_ge (tgt := 60) hx hb dX6_advance_9 (by decide) (fun _ => ?_) (fun c9 => absurd (by decide) c9)
  refine lv_iload_n hx hb dX6_advance_60 rfl (lv_at hl 1 rfl) ?_
  have hP9 := hP.sub (ws' := [(sh, .inr (12, [.ref p0, .ref p1, .ref p2, .ref p3, .ref p4, .int 0]))]) [0] rfl
  have hD9 := hD.sub (ws' := [(sh, .inr (12, [.ref p0, .ref p1, .ref p2, .ref p3, .ref p4, .int 0]))]) [0] (by decide) rfl
  have hK9 := hK.sub (tys' := []) [] rfl
  refine W.widen (k := 0) (n := 0) (Nat.le_of_ble_eq_true rfl) (Nat.le_of_ble_eq_true rfl) ?_
  exact W.iret (v := 0) hx hb hr (fun t ht hW => ⟨⟨0, (), rfl, rfl, pst_of hP9 hD9 hK9 ht hW⟩, hS.F ht⟩) hS.2.2 dX6_advance_61

set_option maxHeartbeats 4000000 in
set_option maxRecDepth 100000 in
theorem c_bringWater (l : Launch) (dC : Nat → ClassId) (dI : Nat → Nat → Nat) (E : Nat → Nat) (now : Nat) (ro : Nat) (hto : Nat) (de : Nat) (cr : Nat) (co : Nat) (sh : Nat) (eo : Nat) (mi : Int32) (bt : Int32) (sz : Nat) : Met l yX7_bringWater wsX7_bringWater ({ frames := 0, cells := 0, slots := 0, locals := 0 }) (va_Pc [.ref now, .int 0] (pre dC dI E [(now, .inr (13, [.ref ro, .ref hto, .ref de, .ref cr, .ref co, .ref sh, .ref eo, .int mi, .int 0, .int 10, .int bt, .int 50, .int 0, .int 50]))] [] sz)) (va_Qv (fun _ : Unit => True) (fun _ t => pst dC dI (va_A [(now, .inr (13, [.ref ro, .ref hto, .ref de, .ref cr, .ref co, .ref sh, .ref eo, .int mi, .int 0, .int 10, .int bt, .int 50, .int 0, .int 50]))] sz) [(now, .inr (13, [.ref ro, .ref hto, .ref de, .ref cr, .ref co, .ref sh, .ref eo, .int mi, .int 0, .int 10, .int bt, .int 50, .int 0, .int 50]))] [] t) (va_A [(now, .inr (13, [.ref ro, .ref hto, .ref de, .ref cr, .ref co, .ref sh, .ref eo, .int mi, .int 0, .int 10, .int bt, .int 50, .int 0, .int 50]))] sz)) 0 0 (va_A [(now, .inr (13, [.ref ro, .ref hto, .ref de, .ref cr, .ref co, .ref sh, .ref eo, .int mi, .int 0, .int 10, .int bt, .int 50, .int 0, .int 50]))] sz) := by
  refine Met.ofW (cc := cX7_bringWater) (maxL := 2) (ret := none) (by decide) rfl ?_
  intro p e s m args below meth c s₁ B hml hv
  obtain ⟨rfl, hsz, hP, hK, hD0, hE, hZ0⟩ := hv
  have hx := B.exec
  have hb := B.bytes
  have hr := B.returns
  have hts := atoms_spec (ws := wsX7_bringWater) B.pre
  have hown : s.vm.findClass RX7 = some m.cls := findClass_of_methodNamed B.named
  have hlocks := B.notSynchronized
  subst hsz
  have hD := hD0.self (sz := s.heap.size)
  generalize hAe : va_A [(now, .inr (13, [.ref ro, .ref hto, .ref de, .ref cr, .ref co, .ref sh, .ref eo, .int mi, .int 0, .int 10, .int bt, .int 50, .int 0, .int 50]))] s.heap.size = A at hD hZ0 ⊢
  have hZ := hZ0
  have hA : ∀ q : Nat, s.heap.size ≤ q → A q := fun q h => by rw [← hAe]; exact Or.inr h
  have hS : va_S A s.heap s.heap [] := va_S.rf
  have hP : va_P (dC, dI) vwCl [(now, .inr (13, [.ref ro, .ref hto, .ref de, .ref cr, .ref co, .ref sh, .ref eo, .int mi, .int 0, .int 10, .int bt, .int 50, .int 0, .int 50]))] s.heap := hP
  have hl := lv_entry ([.ref now, .int 0]) (n := 2) (Nat.le_of_ble_eq_true rfl)
  rw [lg_entry_eq]
  generalize (lg_sl ([.ref now, .int 0]) ++ List.replicate (2 - (lg_sl ([.ref now, .int 0])).length) Slot.unset).toArray = ls at hl ⊢
  have hl : lv_has ls 2 [(0, .ref now), (1, .int 0)] := hl
  refine lv_aload_n hx hb dX7_bringWater_0 rfl (lv_at hl 0 rfl) ?_
  refine lv_dup hx hb dX7_bringWater_1 rfl ?_
  refine va_get (D := (dC, dI)) (ci := 13) (v := .int 50) (C := RX7) (T := TX7) (N := 14) hx hb hts (by decide +kernel) hown hK hP 0 rfl rfl 11 (by decide) (hts (.fieldLink RX7 60 "Orbitdock$Station" "tank" "I") (by decide +kernel)) (fun _ h9 => h9) rfl dX7_bringWater_2 ?_
  refine lv_iload_n hx hb dX7_bringWater_5 rfl (lv_at hl 1 rfl) ?_
  refine lv_iadd hx hb dX7_bringWater_6 ?_
  refine lv_topi (fun z_1 ez_1 => ?_)
  obtain rfl : z_1 = 50 := ez_1.trans (by decide)
  refine va_put (D := (dC, dI)) (ci := 13) (v := .int 50) (ty := .int) (C := RX7) (T := TX7) (N := 14) hx hb hts (by decide +kernel) tyX7 tyX7_ok nmX7 hown hK hP hD hS 0 rfl rfl 11 (by decide) (hts (.fieldLink RX7 60 "Orbitdock$Station" "tank" "I") (by decide +kernel)) (fun _ h9 => h9) rfl (by decide +kernel) rfl rfl (Nat.le_of_ble_eq_true rfl) dX7_bringWater_7 (fun H locs hP hD hS => ?_)
  have hP : va_P (dC, dI) vwCl [(now, .inr (13, [.ref ro, .ref hto, .ref de, .ref cr, .ref co, .ref sh, .ref eo, .int mi, .int 0, .int 10, .int bt, .int 50, .int 0, .int 50]))] H := hP
  have hD : va_D A [(now, .inr (13, [.ref ro, .ref hto, .ref de, .ref cr, .ref co, .ref sh, .ref eo, .int mi, .int 0, .int 10, .int bt, .int 50, .int 0, .int 50]))] := hD
  refine lv_aload_n hx hb dX7_bringWater_10 rfl (lv_at hl 0 rfl) ?_
  refine lv_dup hx hb dX7_bringWater_11 rfl ?_
  refine va_get (D := (dC, dI)) (ci := 13) (v := .int 50) (C := RX7) (T := TX7) (N := 14) hx hb hts (by decide +kernel) hown hK hP 0 rfl rfl 13 (by decide) (hts (.fieldLink RX7 63 "Orbitdock$Station" "came" "I") (by decide +kernel)) (fun _ h9 => h9) rfl dX7_bringWater_12 ?_
  refine lv_iload_n hx hb dX7_bringWater_15 rfl (lv_at hl 1 rfl) ?_
  refine lv_iadd hx hb dX7_bringWater_16 ?_
  refine lv_topi (fun z_2 ez_2 => ?_)
  obtain rfl : z_2 = 50 := ez_2.trans (by decide)
  refine va_put (D := (dC, dI)) (ci := 13) (v := .int 50) (ty := .int) (C := RX7) (T := TX7) (N := 14) hx hb hts (by decide +kernel) tyX7 tyX7_ok nmX7 hown hK hP hD hS 0 rfl rfl 13 (by decide) (hts (.fieldLink RX7 63 "Orbitdock$Station" "came" "I") (by decide +kernel)) (fun _ h9 => h9) rfl (by decide +kernel) rfl rfl (Nat.le_of_ble_eq_true rfl) dX7_bringWater_17 (fun H locs hP hD hS => ?_)
  have hP : va_P (dC, dI) vwCl [(now, .inr (13, [.ref ro, .ref hto, .ref de, .ref cr, .ref co, .ref sh, .ref eo, .int mi, .int 0, .int 10, .int bt, .int 50, .int 0, .int 50]))] H := hP
  have hD : va_D A [(now, .inr (13, [.ref ro, .ref hto, .ref de, .ref cr, .ref co, .ref sh, .ref eo, .int mi, .int 0, .int 10, .int bt, .int 50, .int 0, .int 50]))] := hD
  have hP9 := hP.sub (ws' := [(now, .inr (13, [.ref ro, .ref hto, .ref de, .ref cr, .ref co, .ref sh, .ref eo, .int mi, .int 0, .int 10, .int bt, .int 50, .int 0, .int 50]))]) [0] rfl
  have hD9 := hD.sub (ws' := [(now, .inr (13, [.ref ro, .ref hto, .ref de, .ref cr, .ref co, .ref sh, .ref eo, .int mi, .int 0, .int 10, .int bt, .int 50, .int 0, .int 50]))]) [0] (by decide) rfl
  have hK9 := hK.sub (tys' := []) [] rfl
  refine W.widen (k := 0) (n := 0) (Nat.le_of_ble_eq_true rfl) (Nat.le_of_ble_eq_true rfl) ?_
  exact W.vret hx hb hr (fun t ht hW => ⟨⟨(), rfl, trivial, pst_of hP9 hD9 hK9 ht hW⟩, hS.F ht⟩) hS.2.2 dX7_bringWater_20

set_option maxHeartbeats 4000000 in
set_option maxRecDepth 100000 in
theorem c_runDevices (l : Launch) (dC : Nat → ClassId) (dI : Nat → Nat → Nat) (E : Nat → Nat) (now : Nat) (ro : Nat) (hto : Nat) (de : Nat) (cr : Nat) (co : Nat) (sh : Nat) (eo : Nat) (mi : Int32) (bt : Int32) (v0 : Nat) (v1 : Nat) (v2 : Nat) (sz : Nat) : Met l yX7_runDevices wsX7_runDevices ({ frames := 1, cells := 0, slots := 0, locals := 20 }) (va_Pc [.ref now] (pre dC dI E [(now, .inr (13, [.ref ro, .ref hto, .ref de, .ref cr, .ref co, .ref sh, .ref eo, .int mi, .int 0, .int 10, .int bt, .int 50, .int 0, .int 50])), (de, .inr (8, [.ref v0, .ref v1, .ref v2, .int 0, .int (-1)]))] [] sz)) (va_Qv (fun _ : Unit => True) (fun _ t => ∃ b2 : Int32, pst dC dI (va_A [(now, .inr (13, [.ref ro, .ref hto, .ref de, .ref cr, .ref co, .ref sh, .ref eo, .int mi, .int 0, .int 10, .int bt, .int 50, .int 0, .int 50])), (de, .inr (8, [.ref v0, .ref v1, .ref v2, .int 0, .int (-1)]))] sz) [(now, .inr (13, [.ref ro, .ref hto, .ref de, .ref cr, .ref co, .ref sh, .ref eo, .int mi, .int 0, .int 10, .int b2, .int 50, .int 0, .int 50])), (de, .inr (8, [.ref v0, .ref v1, .ref v2, .int 0, .int (-1)]))] [] t) (va_A [(now, .inr (13, [.ref ro, .ref hto, .ref de, .ref cr, .ref co, .ref sh, .ref eo, .int mi, .int 0, .int 10, .int bt, .int 50, .int 0, .int 50])), (de, .inr (8, [.ref v0, .ref v1, .ref v2, .int 0, .int (-1)]))] sz)) 0 0 (va_A [(now, .inr (13, [.ref ro, .ref hto, .ref de, .ref cr, .ref co, .ref sh, .ref eo, .int mi, .int 0, .int 10, .int bt, .int 50, .int 0, .int 50])), (de, .inr (8, [.ref v0, .ref v1, .ref v2, .int 0, .int (-1)]))] sz) := by
  refine Met.ofW (cc := cX7_runDevices) (maxL := 5) (ret := none) (by decide) rfl ?_
  intro p e s m args below meth c s₁ B hml hv
  obtain ⟨rfl, hsz, hP, hK, hD0, hE, hZ0⟩ := hv
  have hx := B.exec
  have hb := B.bytes
  have hr := B.returns
  have hts := atoms_spec (ws := wsX7_runDevices) B.pre
  have hown : s.vm.findClass RX7 = some m.cls := findClass_of_methodNamed B.named
  have hlocks := B.notSynchronized
  subst hsz
  have hD := hD0.self (sz := s.heap.size)
  generalize hAe : va_A [(now, .inr (13, [.ref ro, .ref hto, .ref de, .ref cr, .ref co, .ref sh, .ref eo, .int mi, .int 0, .int 10, .int bt, .int 50, .int 0, .int 50])), (de, .inr (8, [.ref v0, .ref v1, .ref v2, .int 0, .int (-1)]))] s.heap.size = A at hD hZ0 ⊢
  have hZ := hZ0
  have hA : ∀ q : Nat, s.heap.size ≤ q → A q := fun q h => by rw [← hAe]; exact Or.inr h
  have hS : va_S A s.heap s.heap [] := va_S.rf
  have hP : va_P (dC, dI) vwCl [(now, .inr (13, [.ref ro, .ref hto, .ref de, .ref cr, .ref co, .ref sh, .ref eo, .int mi, .int 0, .int 10, .int bt, .int 50, .int 0, .int 50])), (de, .inr (8, [.ref v0, .ref v1, .ref v2, .int 0, .int (-1)]))] s.heap := hP
  have hl := lv_entry ([.ref now]) (n := 5) (Nat.le_of_ble_eq_true rfl)
  rw [lg_entry_eq]
  generalize (lg_sl ([.ref now]) ++ List.replicate (5 - (lg_sl ([.ref now])).length) Slot.unset).toArray = ls at hl ⊢
  have hl : lv_has ls 5 [(0, .ref now)] := hl
  refine lv_aload_n hx hb dX7_runDevices_0 rfl (lv_at hl 0 rfl) ?_
  refine va_get (D := (dC, dI)) (ci := 13) (v := .int bt) (C := RX7) (T := TX7) (N := 14) hx hb hts (by decide +kernel) hown hK hP 0 rfl rfl 10 (by decide) (hts (.fieldLink RX7 57 "Orbitdock$Station" "battery" "I") (by decide +kernel)) (fun _ h9 => h9) rfl dX7_runDevices_1 ?_
  refine lv_aload_n hx hb dX7_runDevices_4 rfl (lv_at hl 0 rfl) ?_
  have hPc := hP.sub (ws' := [(now, .inr (13, [.ref ro, .ref hto, .ref de, .ref cr, .ref co, .ref sh, .ref eo, .int mi, .int 0, .int 10, .int bt, .int 50, .int 0, .int 50]))]) [0] rfl
  have hDc := hD.sub (ws' := [(now, .inr (13, [.ref ro, .ref hto, .ref de, .ref cr, .ref co, .ref sh, .ref eo, .int mi, .int 0, .int 10, .int bt, .int 50, .int 0, .int 50]))]) [0] (by decide) rfl
  have hKc := hK.sub (tys' := []) [] rfl
  have hFc := va_free (wc := [(now, .inr (13, [.ref ro, .ref hto, .ref de, .ref cr, .ref co, .ref sh, .ref eo, .int mi, .int 0, .int 10, .int bt, .int 50, .int 0, .int 50]))]) hD hS hA [0] rfl
  refine va_calli (va_runV (As := []) (rest := [.int bt]) ⟨hx, hb, hml, hown, hts⟩ (c_isInSun l dC dI E now ro hto de cr co sh eo mi bt s.heap.size) (cwV 0 hts gX7_runDevices_X7_isInSun rfl rfl rfl (by decide +kernel) ⟨(Nat.le_of_ble_eq_true rfl), (Nat.le_of_ble_eq_true rfl)⟩) ⟨pre_blind, va_recv hKc hPc (ci := 13) (q0 := 0) rfl rfl, pre_call hPc hDc hKc hFc hE hZ hS⟩ rfl rfl hl.1 rfl (lv_room (Nat.le_of_ble_eq_true rfl)) dX7_runDevices_5 ⟨(Nat.le_of_ble_eq_true rfl), (Nat.le_of_ble_eq_true rfl)⟩) hS (fun q _ h => hFc q h) hFc (fun r_2 u t H1 locs1 ht hvm hw hB hz1 hk1 hS => ?_)
  obtain ⟨hP, hD, hK⟩ := pst_join (wc := [(now, .inr (13, [.ref ro, .ref hto, .ref de, .ref cr, .ref co, .ref sh, .ref eo, .int mi, .int 0, .int 10, .int bt, .int 50, .int 0, .int 50]))]) (wr := [(de, .inr (8, [.ref v0, .ref v1, .ref v2, .int 0, .int (-1)]))]) (w1 := [(now, .inr (13, [.ref ro, .ref hto, .ref de, .ref cr, .ref co, .ref sh, .ref eo, .int mi, .int 0, .int 10, .int bt, .int 50, .int 0, .int 50]))]) (tr := []) (t1 := []) hP hD hK [0] [1] [] rfl rfl rfl (by decide) (by decide) hk1 hFc ht hvm hB
  generalize H1 = H at hP hS ⊢
  have hP : va_P (dC, dI) vwCl [(de, .inr (8, [.ref v0, .ref v1, .ref v2, .int 0, .int (-1)])), (now, .inr (13, [.ref ro, .ref hto, .ref de, .ref cr, .ref co, .ref sh, .ref eo, .int mi, .int 0, .int 10, .int bt, .int 50, .int 0, .int 50]))] H := hP
  have hD : va_D A [(de, .inr (8, [.ref v0, .ref v1, .ref v2, .int 0, .int (-1)])), (now, .inr (13, [.ref ro, .ref hto, .ref de, .ref cr, .ref co, .ref sh, .ref eo, .int mi, .int 0, .int 10, .int bt, .int 50, .int 0, .int 50]))] := hD
  have hK : va_K (dC, dI) vwCl [] s := hK
  refine W.widen (k := 0) (n := 0) (Nat.le_of_ble_eq_true rfl) (Nat.le_of_ble_eq_true rfl) ?_
  refine lv_if_eq (tgt := 18) hx hb dX7_runDevices_8 (by decide) (fun c_3 => ?_) (fun c_3 => ?_)
  · refine lv_iconst (v := 0) hx hb dX7_runDevices_18 (by decide) ?_
    refine lv_iadd hx hb dX7_runDevices_19 ?_
    refine lv_istore_n (lv' := [(1, .int (bt + 0)), (0, .ref now)]) hx hb dX7_runDevices_20 rfl hl (by decide) rfl (fun ls hl => ?_)
    refine lv_iconst (v := 0) hx hb dX7_runDevices_21 (by decide) ?_
    refine lv_istore_n (lv' := [(2, .int 0), (1, .int (bt + 0)), (0, .ref now)]) hx hb dX7_runDevices_22 rfl hl (by decide) rfl (fun ls hl => ?_)
    refine lv_iload_n hx hb dX7_runDevices_23 rfl (lv_at hl 0 rfl) ?_
    refine lv_aload_n hx hb dX7_runDevices_24 rfl (lv_at hl 2 rfl) ?_
    refine va_get (D := (dC, dI)) (ci := 13) (v := .ref de) (C := RX7) (T := TX7) (N := 14) hx hb hts (by decide +kernel) hown hK hP 1 rfl rfl 2 (by decide) (hts (.fieldLink RX7 28 "Orbitdock$Station" "devices" "LOrbitdock$Devices;") (by decide +kernel)) (fun _ h9 => h9) rfl dX7_runDevices_25 ?_
    refine va_get (D := (dC, dI)) (ci := 8) (v := .int 0) (C := RX2) (T := TX2) (N := 5) hx hb hts (by decide +kernel) hown hK hP 0 rfl rfl 3 (by decide) (hts (.fieldLink RX7 186 "Orbitdock$Devices" "count" "I") (by decide +kernel)) (fun _ h9 => h9) rfl dX7_runDevices_28 ?_
    refine lv_icmp_ge (tgt := 164) hx hb dX7_runDevices_31 (by decide) (fun _ => ?_) (fun c9 => absurd (by decide) c9)
    refine lv_aload_n hx hb dX7_runDevices_164 rfl (lv_at hl 2 rfl) ?_
    refine lv_iload_n hx hb dX7_runDevices_165 rfl (lv_at hl 1 rfl) ?_
    refine lv_sipush (v := 200) hx hb dX7_runDevices_166 (by decide) ?_
    refine va_mmin hx hb (by rw [hml]; exact hl.1.symm) hown (hts (.methodLink RX7 206 Lib.Math.min.name) (by decide +kernel)) (hts (.static Lib.Math.min.name) (by decide +kernel)) (hts (.initialized "java/lang/Math") (by decide +kernel)) (hts (.code Lib.Math.min.name Lib.Math.min.code 2 (some .int)) (by decide +kernel)) (Nat.le_of_ble_eq_true rfl) (Nat.le_of_ble_eq_true rfl) (Nat.le_of_ble_eq_true rfl) (Nat.le_of_ble_eq_true rfl) dX7_runDevices_169 ?_
    refine lv_topi (fun z_5 ez_5 => ?_)
    refine va_put (D := (dC, dI)) (ci := 13) (v := .int z_5) (ty := .int) (C := RX7) (T := TX7) (N := 14) hx hb hts (by decide +kernel) tyX7 tyX7_ok nmX7 hown hK hP hD hS 1 rfl rfl 10 (by decide) (hts (.fieldLink RX7 57 "Orbitdock$Station" "battery" "I") (by decide +kernel)) (fun _ h9 => h9) rfl (by decide +kernel) rfl rfl (Nat.le_of_ble_eq_true rfl) dX7_runDevices_172 (fun H locs hP hD hS => ?_)
    have hP : va_P (dC, dI) vwCl [(de, .inr (8, [.ref v0, .ref v1, .ref v2, .int 0, .int (-1)])), (now, .inr (13, [.ref ro, .ref hto, .ref de, .ref cr, .ref co, .ref sh, .ref eo, .int mi, .int 0, .int 10, .int z_5, .int 50, .int 0, .int 50]))] H := hP
    have hD : va_D A [(de, .inr (8, [.ref v0, .ref v1, .ref v2, .int 0, .int (-1)])), (now, .inr (13, [.ref ro, .ref hto, .ref de, .ref cr, .ref co, .ref sh, .ref eo, .int mi, .int 0, .int 10, .int z_5, .int 50, .int 0, .int 50]))] := hD
    have hP9 := hP.sub (ws' := [(now, .inr (13, [.ref ro, .ref hto, .ref de, .ref cr, .ref co, .ref sh, .ref eo, .int mi, .int 0, .int 10, .int z_5, .int 50, .int 0, .int 50])), (de, .inr (8, [.ref v0, .ref v1, .ref v2, .int 0, .int (-1)]))]) [1, 0] rfl
    have hD9 := hD.sub (ws' := [(now, .inr (13, [.ref ro, .ref hto, .ref de, .ref cr, .ref co, .ref sh, .ref eo, .int mi, .int 0, .int 10, .int z_5, .int 50, .int 0, .int 50])), (de, .inr (8, [.ref v0, .ref v1, .ref v2, .int 0, .int (-1)]))]) [1, 0] (by decide) rfl
    have hK9 := hK.sub (tys' := []) [] rfl
    refine W.widen (k := 0) (n := 0) (Nat.le_of_ble_eq_true rfl) (Nat.le_of_ble_eq_true rfl) ?_
    exact W.vret hx hb hr (fun t ht hW => ⟨⟨(), rfl, trivial, ⟨z_5, pst_of hP9 hD9 hK9 ht hW⟩⟩, hS.F ht⟩) hS.2.2 dX7_runDevices_175
  · refine lv_aload_n hx hb dX7_runDevices_11 rfl (lv_at hl 0 rfl) ?_
    refine va_get (D := (dC, dI)) (ci := 13) (v := .int 10) (C := RX7) (T := TX7) (N := 14) hx hb hts (by decide +kernel) hown hK hP 1 rfl rfl 9 (by decide) (hts (.fieldLink RX7 53 "Orbitdock$Station" "panels" "I") (by decide +kernel)) (fun _ h9 => h9) rfl dX7_runDevices_12 ?_
    refine lv_goto (tgt := 19) hx hb dX7_runDevices_15 (by decide) ?_
    refine lv_iadd hx hb dX7_runDevices_19 ?_
    refine lv_istore_n (lv' := [(1, .int (bt + 10)), (0, .ref now)]) hx hb dX7_runDevices_20 rfl hl (by decide) rfl (fun ls hl => ?_)
    refine lv_iconst (v := 0) hx hb dX7_runDevices_21 (by decide) ?_
    refine lv_istore_n (lv' := [(2, .int 0), (1, .int (bt + 10)), (0, .ref now)]) hx hb dX7_runDevices_22 rfl hl (by decide) rfl (fun ls hl => ?_)
    refine lv_iload_n hx hb dX7_runDevices_23 rfl (lv_at hl 0 rfl) ?_
    refine lv_aload_n hx hb dX7_runDevices_24 rfl (lv_at hl 2 rfl) ?_
    refine va_get (D := (dC, dI)) (ci := 13) (v := .ref de) (C := RX7) (T := TX7) (N := 14) hx hb hts (by decide +kernel) hown hK hP 1 rfl rfl 2 (by decide) (hts (.fieldLink RX7 28 "Orbitdock$Station" "devices" "LOrbitdock$Devices;") (by decide +kernel)) (fun _ h9 => h9) rfl dX7_runDevices_25 ?_
    refine va_get (D := (dC, dI)) (ci := 8) (v := .int 0) (C := RX2) (T := TX2) (N := 5) hx hb hts (by decide +kernel) hown hK hP 0 rfl rfl 3 (by decide) (hts (.fieldLink RX7 186 "Orbitdock$Devices" "count" "I") (by decide +kernel)) (fun _ h9 => h9) rfl dX7_runDevices_28 ?_
    refine lv_icmp_ge (tgt := 164) hx hb dX7_runDevices_31 (by decide) (fun _ => ?_) (fun c9 => absurd (by decide) c9)
    refine lv_aload_n hx hb dX7_runDevices_164 rfl (lv_at hl 2 rfl) ?_
    refine lv_iload_n hx hb dX7_runDevices_165 rfl (lv_at hl 1 rfl) ?_
    refine lv_sipush (v := 200) hx hb dX7_runDevices_166 (by decide) ?_
    refine va_mmin hx hb (by rw [hml]; exact hl.1.symm) hown (hts (.methodLink RX7 206 Lib.Math.min.name) (by decide +kernel)) (hts (.static Lib.Math.min.name) (by decide +kernel)) (hts (.initialized "java/lang/Math") (by decide +kernel)) (hts (.code Lib.Math.min.name Lib.Math.min.code 2 (some .int)) (by decide +kernel)) (Nat.le_of_ble_eq_true rfl) (Nat.le_of_ble_eq_true rfl) (Nat.le_of_ble_eq_true rfl) (Nat.le_of_ble_eq_true rfl) dX7_runDevices_169 ?_
    refine lv_topi (fun z_7 ez_7 => ?_)
    refine va_put (D := (dC, dI)) (ci := 13) (v := .int z_7) (ty := .int) (C := RX7) (T := TX7) (N := 14) hx hb hts (by decide +kernel) tyX7 tyX7_ok nmX7 hown hK hP hD hS 1 rfl rfl 10 (by decide) (hts (.fieldLink RX7 57 "Orbitdock$Station" "battery" "I") (by decide +kernel)) (fun _ h9 => h9) rfl (by decide +kernel) rfl rfl (Nat.le_of_ble_eq_true rfl) dX7_runDevices_172 (fun H locs hP hD hS => ?_)
    have hP : va_P (dC, dI) vwCl [(de, .inr (8, [.ref v0, .ref v1, .ref v2, .int 0, .int (-1)])), (now, .inr (13, [.ref ro, .ref hto, .ref de, .ref cr, .ref co, .ref sh, .ref eo, .int mi, .int 0, .int 10, .int z_7, .int 50, .int 0, .int 50]))] H := hP
    have hD : va_D A [(de, .inr (8, [.ref v0, .ref v1, .ref v2, .int 0, .int (-1)])), (now, .inr (13, [.ref ro, .ref hto, .ref de, .ref cr, .ref co, .ref sh, .ref eo, .int mi, .int 0, .int 10, .int z_7, .int 50, .int 0, .int 50]))] := hD
    have hP9 := hP.sub (ws' := [(now, .inr (13, [.ref ro, .ref hto, .ref de, .ref cr, .ref co, .ref sh, .ref eo, .int mi, .int 0, .int 10, .int z_7, .int 50, .int 0, .int 50])), (de, .inr (8, [.ref v0, .ref v1, .ref v2, .int 0, .int (-1)]))]) [1, 0] rfl
    have hD9 := hD.sub (ws' := [(now, .inr (13, [.ref ro, .ref hto, .ref de, .ref cr, .ref co, .ref sh, .ref eo, .int mi, .int 0, .int 10, .int z_7, .int 50, .int 0, .int 50])), (de, .inr (8, [.ref v0, .ref v1, .ref v2, .int 0, .int (-1)]))]) [1, 0] (by decide) rfl
    have hK9 := hK.sub (tys' := []) [] rfl
    refine W.widen (k := 0) (n := 0) (Nat.le_of_ble_eq_true rfl) (Nat.le_of_ble_eq_true rfl) ?_
    exact W.vret hx hb hr (fun t ht hW => ⟨⟨(), rfl, trivial, ⟨z_7, pst_of hP9 hD9 hK9 ht hW⟩⟩, hS.F ht⟩) hS.2.2 dX7_runDevices_175

set_option maxHeartbeats 4000000 in
set_option maxRecDepth 100000 in
theorem c_leakOut (l : Launch) (dC : Nat → ClassId) (dI : Nat → Nat → Nat) (E : Nat → Nat) (ro : Nat) (a0 : Nat) (a1 : Nat) (a2 : Nat) (sz : Nat) : Met l yX5_leakOut wsX5_leakOut ({ frames := 0, cells := 0, slots := 0, locals := 0 }) (va_Pc [.ref ro] (pre dC dI E [(ro, .inr (11, [.ref a0, .ref a1, .ref a2, .int 0, .int 0]))] [] sz)) (va_Qv (fun _ : Unit => True) (fun _ t => pst dC dI (va_A [(ro, .inr (11, [.ref a0, .ref a1, .ref a2, .int 0, .int 0]))] sz) [(ro, .inr (11, [.ref a0, .ref a1, .ref a2, .int 0, .int 0]))] [] t) (va_A [(ro, .inr (11, [.ref a0, .ref a1, .ref a2, .int 0, .int 0]))] sz)) 0 0 (va_A [(ro, .inr (11, [.ref a0, .ref a1, .ref a2, .int 0, .int 0]))] sz) := by
  refine Met.ofW (cc := cX5_leakOut) (maxL := 3) (ret := none) (by decide) rfl ?_
  intro p e s m args below meth c s₁ B hml hv
  obtain ⟨rfl, hsz, hP, hK, hD0, hE, hZ0⟩ := hv
  have hx := B.exec
  have hb := B.bytes
  have hr := B.returns
  have hts := atoms_spec (ws := wsX5_leakOut) B.pre
  have hown : s.vm.findClass RX5 = some m.cls := findClass_of_methodNamed B.named
  have hlocks := B.notSynchronized
  subst hsz
  have hD := hD0.self (sz := s.heap.size)
  generalize hAe : va_A [(ro, .inr (11, [.ref a0, .ref a1, .ref a2, .int 0, .int 0]))] s.heap.size = A at hD hZ0 ⊢
  have hZ := hZ0
  have hA : ∀ q : Nat, s.heap.size ≤ q → A q := fun q h => by rw [← hAe]; exact Or.inr h
  have hS : va_S A s.heap s.heap [] := va_S.rf
  have hP : va_P (dC, dI) vwCl [(ro, .inr (11, [.ref a0, .ref a1, .ref a2, .int 0, .int 0]))] s.heap := hP
  have hl := lv_entry ([.ref ro]) (n := 3) (Nat.le_of_ble_eq_true rfl)
  rw [lg_entry_eq]
  generalize (lg_sl ([.ref ro]) ++ List.replicate (3 - (lg_sl ([.ref ro])).length) Slot.unset).toArray = ls at hl ⊢
  have hl : lv_has ls 3 [(0, .ref ro)] := hl
  refine lv_iconst (v := 0) hx hb dX5_leakOut_0 (by decide) ?_
  refine lv_istore_n (lv' := [(1, .int 0), (0, .ref ro)]) hx hb dX5_leakOut_1 rfl hl (by decide) rfl (fun ls hl => ?_)
  refine lv_iload_n hx hb dX5_leakOut_2 rfl (lv_at hl 0 rfl) ?_
  refine lv_aload_n hx hb dX5_leakOut_3 rfl (lv_at hl 1 rfl) ?_
  refine va_get (D := (dC, dI)) (ci := 11) (v := .int 0) (C := RX5) (T := TX5) (N := 5) hx hb hts (by decide +kernel) hown hK hP 0 rfl rfl 3 (by decide) (hts (.fieldLink RX5 21 "Orbitdock$Rooms" "count" "I") (by decide +kernel)) (fun _ h9 => h9) rfl dX5_leakOut_4 ?_
  refine lv_icmp_ge (tgt := 52) hx hb dX5_leakOut_7 (by decide) (fun _ => ?_) (fun c9 => absurd (by decide) c9)
  have hP9 := hP.sub (ws' := [(ro, .inr (11, [.ref a0, .ref a1, .ref a2, .int 0, .int 0]))]) [0] rfl
  have hD9 := hD.sub (ws' := [(ro, .inr (11, [.ref a0, .ref a1, .ref a2, .int 0, .int 0]))]) [0] (by decide) rfl
  have hK9 := hK.sub (tys' := []) [] rfl
  refine W.widen (k := 0) (n := 0) (Nat.le_of_ble_eq_true rfl) (Nat.le_of_ble_eq_true rfl) ?_
  exact W.vret hx hb hr (fun t ht hW => ⟨⟨(), rfl, trivial, pst_of hP9 hD9 hK9 ht hW⟩, hS.F ht⟩) hS.2.2 dX5_leakOut_52

set_option maxHeartbeats 4000000 in
set_option maxRecDepth 100000 in
theorem c_levelRooms (l : Launch) (dC : Nat → ClassId) (dI : Nat → Nat → Nat) (E : Nat → Nat) (now : Nat) (ro : Nat) (hto : Nat) (de : Nat) (cr : Nat) (co : Nat) (sh : Nat) (eo : Nat) (mi : Int32) (bt : Int32) (g0 : Nat) (g1 : Nat) (g2 : Nat) (sz : Nat) : Met l yX7_levelRooms wsX7_levelRooms ({ frames := 0, cells := 0, slots := 0, locals := 0 }) (va_Pc [.ref now] (pre dC dI E [(now, .inr (13, [.ref ro, .ref hto, .ref de, .ref cr, .ref co, .ref sh, .ref eo, .int mi, .int 0, .int 10, .int bt, .int 50, .int 0, .int 50])), (hto, .inr (10, [.ref g0, .ref g1, .ref g2, .int 0]))] [] sz)) (va_Qv (fun _ : Unit => True) (fun _ t => pst dC dI (va_A [(now, .inr (13, [.ref ro, .ref hto, .ref de, .ref cr, .ref co, .ref sh, .ref eo, .int mi, .int 0, .int 10, .int bt, .int 50, .int 0, .int 50])), (hto, .inr (10, [.ref g0, .ref g1, .ref g2, .int 0]))] sz) [(now, .inr (13, [.ref ro, .ref hto, .ref de, .ref cr, .ref co, .ref sh, .ref eo, .int mi, .int 0, .int 10, .int bt, .int 50, .int 0, .int 50])), (hto, .inr (10, [.ref g0, .ref g1, .ref g2, .int 0]))] [] t) (va_A [(now, .inr (13, [.ref ro, .ref hto, .ref de, .ref cr, .ref co, .ref sh, .ref eo, .int mi, .int 0, .int 10, .int bt, .int 50, .int 0, .int 50])), (hto, .inr (10, [.ref g0, .ref g1, .ref g2, .int 0]))] sz)) 0 0 (va_A [(now, .inr (13, [.ref ro, .ref hto, .ref de, .ref cr, .ref co, .ref sh, .ref eo, .int mi, .int 0, .int 10, .int bt, .int 50, .int 0, .int 50])), (hto, .inr (10, [.ref g0, .ref g1, .ref g2, .int 0]))] sz) := by
  refine Met.ofW (cc := cX7_levelRooms) (maxL := 2) (ret := none) (by decide) rfl ?_
  intro p e s m args below meth c s₁ B hml hv
  obtain ⟨rfl, hsz, hP, hK, hD0, hE, hZ0⟩ := hv
  have hx := B.exec
  have hb := B.bytes
  have hr := B.returns
  have hts := atoms_spec (ws := wsX7_levelRooms) B.pre
  have hown : s.vm.findClass RX7 = some m.cls := findClass_of_methodNamed B.named
  have hlocks := B.notSynchronized
  subst hsz
  have hD := hD0.self (sz := s.heap.size)
  generalize hAe : va_A [(now, .inr (13, [.ref ro, .ref hto, .ref de, .ref cr, .ref co, .ref sh, .ref eo, .int mi, .int 0, .int 10, .int bt, .int 50, .int 0, .int 50])), (hto, .inr (10, [.ref g0, .ref g1, .ref g2, .int 0]))] s.heap.size = A at hD hZ0 ⊢
  have hZ := hZ0
  have hA : ∀ q : Nat, s.heap.size ≤ q → A q := fun q h => by rw [← hAe]; exact Or.inr h
  have hS : va_S A s.heap s.heap [] := va_S.rf
  have hP : va_P (dC, dI) vwCl [(now, .inr (13, [.ref ro, .ref hto, .ref de, .ref cr, .ref co, .ref sh, .ref eo, .int mi, .int 0, .int 10, .int bt, .int 50, .int 0, .int 50])), (hto, .inr (10, [.ref g0, .ref g1, .ref g2, .int 0]))] s.heap := hP
  have hl := lv_entry ([.ref now]) (n := 2) (Nat.le_of_ble_eq_true rfl)
  rw [lg_entry_eq]
  generalize (lg_sl ([.ref now]) ++ List.replicate (2 - (lg_sl ([.ref now])).length) Slot.unset).toArray = ls at hl ⊢
  have hl : lv_has ls 2 [(0, .ref now)] := hl
  refine lv_iconst (v := 0) hx hb dX7_levelRooms_0 (by decide) ?_
  refine lv_istore_n (lv' := [(1, .int 0), (0, .ref now)]) hx hb dX7_levelRooms_1 rfl hl (by decide) rfl (fun ls hl => ?_)
  refine lv_iload_n hx hb dX7_levelRooms_2 rfl (lv_at hl 0 rfl) ?_
  refine lv_aload_n hx hb dX7_levelRooms_3 rfl (lv_at hl 1 rfl) ?_
  refine va_get (D := (dC, dI)) (ci := 13) (v := .ref hto) (C := RX7) (T := TX7) (N := 14) hx hb hts (by decide +kernel) hown hK hP 0 rfl rfl 1 (by decide) (hts (.fieldLink RX7 21 "Orbitdock$Station" "hatches" "LOrbitdock$Hatches;") (by decide +kernel)) (fun _ h9 => h9) rfl dX7_levelRooms_4 ?_
  refine va_get (D := (dC, dI)) (ci := 10) (v := .int 0) (C := RX4) (T := TX4) (N := 4) hx hb hts (by decide +kernel) hown hK hP 1 rfl rfl 3 (by decide) (hts (.fieldLink RX7 214 "Orbitdock$Hatches" "count" "I") (by decide +kernel)) (fun _ h9 => h9) rfl dX7_levelRooms_7 ?_
  refine lv_icmp_ge (tgt := 56) hx hb dX7_levelRooms_10 (by decide) (fun _ => ?_) (fun c9 => absurd (by decide) c9)
  have hP9 := hP.sub (ws' := [(now, .inr (13, [.ref ro, .ref hto, .ref de, .ref cr, .ref co, .ref sh, .ref eo, .int mi, .int 0, .int 10, .int bt, .int 50, .int 0, .int 50])), (hto, .inr (10, [.ref g0, .ref g1, .ref g2, .int 0]))]) [0, 1] rfl
  have hD9 := hD.sub (ws' := [(now, .inr (13, [.ref ro, .ref hto, .ref de, .ref cr, .ref co, .ref sh, .ref eo, .int mi, .int 0, .int 10, .int bt, .int 50, .int 0, .int 50])), (hto, .inr (10, [.ref g0, .ref g1, .ref g2, .int 0]))]) [0, 1] (by decide) rfl
  have hK9 := hK.sub (tys' := []) [] rfl
  refine W.widen (k := 0) (n := 0) (Nat.le_of_ble_eq_true rfl) (Nat.le_of_ble_eq_true rfl) ?_
  exact W.vret hx hb hr (fun t ht hW => ⟨⟨(), rfl, trivial, pst_of hP9 hD9 hK9 ht hW⟩, hS.F ht⟩) hS.2.2 dX7_levelRooms_56

set_option maxHeartbeats 4000000 in
set_option maxRecDepth 100000 in
theorem c_breathe (l : Launch) (dC : Nat → ClassId) (dI : Nat → Nat → Nat) (E : Nat → Nat) (cr : Nat) (ro : Nat) (eo : Nat) (w0 : Nat) (w1 : Nat) (w2 : Nat) (w3 : Nat) (mi : Int32) (sz : Nat) : Met l yX1_breathe wsX1_breathe ({ frames := 0, cells := 0, slots := 0, locals := 0 }) (va_Pc [.ref cr, .ref ro, .ref eo, .int mi] (pre dC dI E [(cr, .inr (7, [.ref w0, .ref w1, .ref w2, .ref w3, .int 0, .int 0]))] [] sz)) (va_Qv (fun _ : Unit => True) (fun _ t => pst dC dI (va_A [(cr, .inr (7, [.ref w0, .ref w1, .ref w2, .ref w3, .int 0, .int 0]))] sz) [(cr, .inr (7, [.ref w0, .ref w1, .ref w2, .ref w3, .int 0, .int 0]))] [] t) (va_A [(cr, .inr (7, [.ref w0, .ref w1, .ref w2, .ref w3, .int 0, .int 0]))] sz)) 0 0 (va_A [(cr, .inr (7, [.ref w0, .ref w1, .ref w2, .ref w3, .int 0, .int 0]))] sz) := by
  refine Met.ofW (cc := cX1_breathe) (maxL := 7) (ret := none) (by decide) rfl ?_
  intro p e s m args below meth c s₁ B hml hv
  obtain ⟨rfl, hsz, hP, hK, hD0, hE, hZ0⟩ := hv
  have hx := B.exec
  have hb := B.bytes
  have hr := B.returns
  have hts := atoms_spec (ws := wsX1_breathe) B.pre
  have hown : s.vm.findClass RX1 = some m.cls := findClass_of_methodNamed B.named
  have hlocks := B.notSynchronized
  subst hsz
  have hD := hD0.self (sz := s.heap.size)
  generalize hAe : va_A [(cr, .inr (7, [.ref w0, .ref w1, .ref w2, .ref w3, .int 0, .int 0]))] s.heap.size = A at hD hZ0 ⊢
  have hZ := hZ0
  have hA : ∀ q : Nat, s.heap.size ≤ q → A q := fun q h => by rw [← hAe]; exact Or.inr h
  have hS : va_S A s.heap s.heap [] := va_S.rf
  have hP : va_P (dC, dI) vwCl [(cr, .inr (7, [.ref w0, .ref w1, .ref w2, .ref w3, .int 0, .int 0]))] s.heap := hP
  have hl := lv_entry ([.ref cr, .ref ro, .ref eo, .int mi]) (n := 7) (Nat.le_of_ble_eq_true rfl)
  rw [lg_entry_eq]
  generalize (lg_sl ([.ref cr, .ref ro, .ref eo, .int mi]) ++ List.replicate (7 - (lg_sl ([.ref cr, .ref ro, .ref eo, .int mi])).length) Slot.unset).toArray = ls at hl ⊢
  have hl : lv_has ls 7 [(0, .ref cr), (1, .ref ro), (2, .ref eo), (3, .int mi)] := hl
  refine lv_iconst (v := 0) hx hb dX1_breathe_0 (by decide) ?_
  refine lv_istore (lv' := [(4, .int 0), (0, .ref cr), (1, .ref ro), (2, .ref eo), (3, .int mi)]) hx hb dX1_breathe_1 hl (by decide) rfl (fun ls hl => ?_)
  refine lv_iload hx hb dX1_breathe_3 (lv_at hl 0 rfl) ?_
  refine lv_aload_n hx hb dX1_breathe_5 rfl (lv_at hl 1 rfl) ?_
  refine va_get (D := (dC, dI)) (ci := 7) (v := .int 0) (C := RX1) (T := TX1) (N := 6) hx hb hts (by decide +kernel) hown hK hP 0 rfl rfl 4 (by decide) (hts (.fieldLink RX1 26 "Orbitdock$Crew" "count" "I") (by decide +kernel)) (fun _ h9 => h9) rfl dX1_breathe_6 ?_
  refine lv_icmp_ge (tgt := 126) hx hb dX1_breathe_9 (by decide) (fun _ => ?_) (fun c9 => absurd (by decide) c9)
  have hP9 := hP.sub (ws' := [(cr, .inr (7, [.ref w0, .ref w1, .ref w2, .ref w3, .int 0, .int 0]))]) [0] rfl
  have hD9 := hD.sub (ws' := [(cr, .inr (7, [.ref w0, .ref w1, .ref w2, .ref w3, .int 0, .int 0]))]) [0] (by decide) rfl
  have hK9 := hK.sub (tys' := []) [] rfl
  refine W.widen (k := 0) (n := 0) (Nat.le_of_ble_eq_true rfl) (Nat.le_of_ble_eq_true rfl) ?_
  exact W.vret hx hb hr (fun t ht hW => ⟨⟨(), rfl, trivial, pst_of hP9 hD9 hK9 ht hW⟩, hS.F ht⟩) hS.2.2 dX1_breathe_126

set_option maxHeartbeats 4000000 in
set_option maxRecDepth 100000 in
theorem c_isInDanger (l : Launch) (dC : Nat → ClassId) (dI : Nat → Nat → Nat) (E : Nat → Nat) (cr : Nat) (ro : Nat) (w0 : Nat) (w1 : Nat) (w2 : Nat) (w3 : Nat) (sz : Nat) : Met l yX1_isInDanger wsX1_isInDanger ({ frames := 0, cells := 0, slots := 0, locals := 0 }) (va_Pc [.ref cr, .ref ro] (pre dC dI E [(cr, .inr (7, [.ref w0, .ref w1, .ref w2, .ref w3, .int 0, .int 0]))] [] sz)) (va_Qi (fun (r : Int32) (_ : Unit) => r = 0) (fun _ t => pst dC dI (va_A [(cr, .inr (7, [.ref w0, .ref w1, .ref w2, .ref w3, .int 0, .int 0]))] sz) [(cr, .inr (7, [.ref w0, .ref w1, .ref w2, .ref w3, .int 0, .int 0]))] [] t) (va_A [(cr, .inr (7, [.ref w0, .ref w1, .ref w2, .ref w3, .int 0, .int 0]))] sz)) 0 0 (va_A [(cr, .inr (7, [.ref w0, .ref w1, .ref w2, .ref w3, .int 0, .int 0]))] sz) := by
  refine Met.ofW (cc := cX1_isInDanger) (maxL := 3) (ret := (some .boolean)) (by decide) rfl ?_
  intro p e s m args below meth c s₁ B hml hv
  obtain ⟨rfl, hsz, hP, hK, hD0, hE, hZ0⟩ := hv
  have hx := B.exec
  have hb := B.bytes
  have hr := B.returns
  have hts := atoms_spec (ws := wsX1_isInDanger) B.pre
  have hown : s.vm.findClass RX1 = some m.cls := findClass_of_methodNamed B.named
  have hlocks := B.notSynchronized
  subst hsz
  have hD := hD0.self (sz := s.heap.size)
  generalize hAe : va_A [(cr, .inr (7, [.ref w0, .ref w1, .ref w2, .ref w3, .int 0, .int 0]))] s.heap.size = A at hD hZ0 ⊢
  have hZ := hZ0
  have hA : ∀ q : Nat, s.heap.size ≤ q → A q := fun q h => by rw [← hAe]; exact Or.inr h
  have hS : va_S A s.heap s.heap [] := va_S.rf
  have hP : va_P (dC, dI) vwCl [(cr, .inr (7, [.ref w0, .ref w1, .ref w2, .ref w3, .int 0, .int 0]))] s.heap := hP
  have hl := lv_entry ([.ref cr, .ref ro]) (n := 3) (Nat.le_of_ble_eq_true rfl)
  rw [lg_entry_eq]
  generalize (lg_sl ([.ref cr, .ref ro]) ++ List.replicate (3 - (lg_sl ([.ref cr, .ref ro])).length) Slot.unset).toArray = ls at hl ⊢
  have hl : lv_has ls 3 [(0, .ref cr), (1, .ref ro)] := hl
  refine lv_iconst (v := 0) hx hb dX1_isInDanger_0 (by decide) ?_
  refine lv_istore_n (lv' := [(2, .int 0), (0, .ref cr), (1, .ref ro)]) hx hb dX1_isInDanger_1 rfl hl (by decide) rfl (fun ls hl => ?_)
  refine lv_iload_n hx hb dX1_isInDanger_2 rfl (lv_at hl 0 rfl) ?_
  refine lv_aload_n hx hb dX1_isInDanger_3 rfl (lv_at hl 1 rfl) ?_
  refine va_get (D := (dC, dI)) (ci := 7) (v := .int 0) (C := RX1) (T := TX1) (N := 6) hx hb hts (by decide +kernel) hown hK hP 0 rfl rfl 4 (by decide) (hts (.fieldLink RX1 26 "Orbitdock$Crew" "count" "I") (by decide +kernel)) (fun _ h9 => h9) rfl dX1_isInDanger_4 ?_
  refine lv_icmp_ge (tgt := 40) hx hb dX1_isInDanger_7 (by decide) (fun _ => ?_) (fun c9 => absurd (by decide) c9)
  refine lv_iconst (v := 0) hx hb dX1_isInDanger_40 (by decide) ?_
  have hP9 := hP.sub (ws' := [(cr, .inr (7, [.ref w0, .ref w1, .ref w2, .ref w3, .int 0, .int 0]))]) [0] rfl
  have hD9 := hD.sub (ws' := [(cr, .inr (7, [.ref w0, .ref w1, .ref w2, .ref w3, .int 0, .int 0]))]) [0] (by decide) rfl
  have hK9 := hK.sub (tys' := []) [] rfl
  refine W.widen (k := 0) (n := 0) (Nat.le_of_ble_eq_true rfl) (Nat.le_of_ble_eq_true rfl) ?_
  exact W.zret (v := 0) hx hb hr rfl (fun t ht hW => ⟨⟨0, (), rfl, rfl, pst_of hP9 hD9 hK9 ht hW⟩, hS.F ht⟩) hS.2.2 dX1_isInDanger_41

set_option maxHeartbeats 4000000 in
set_option maxRecDepth 100000 in
theorem c_passMinute (l : Launch) (dC : Nat → ClassId) (dI : Nat → Nat → Nat) (E : Nat → Nat) (now : Nat) (ro : Nat) (hto : Nat) (de : Nat) (cr : Nat) (co : Nat) (sh : Nat) (eo : Nat) (mi : Int32) (bt : Int32) (k0 : Nat) (k1 : Nat) (k2 : Nat) (k3 : Nat) (p0 : Nat) (p1 : Nat) (p2 : Nat) (p3 : Nat) (p4 : Nat) (v0 : Nat) (v1 : Nat) (v2 : Nat) (a0 : Nat) (a1 : Nat) (a2 : Nat) (g0 : Nat) (g1 : Nat) (g2 : Nat) (w0 : Nat) (w1 : Nat) (w2 : Nat) (w3 : Nat) (sz : Nat) : Met l yX7_passMinute wsX7_passMinute ({ frames := 2, cells := 0, slots := 0, locals := 44 }) (va_Pc [.ref now] (pre dC dI E [(now, .inr (13, [.ref ro, .ref hto, .ref de, .ref cr, .ref co, .ref sh, .ref eo, .int mi, .int 0, .int 10, .int bt, .int 50, .int 0, .int 50])), (co, .inr (6, [.ref k0, .ref k1, .ref k2, .ref k3, .int 0])), (sh, .inr (12, [.ref p0, .ref p1, .ref p2, .ref p3, .ref p4, .int 0])), (de, .inr (8, [.ref v0, .ref v1, .ref v2, .int 0, .int (-1)])), (ro, .inr (11, [.ref a0, .ref a1, .ref a2, .int 0, .int 0])), (hto, .inr (10, [.ref g0, .ref g1, .ref g2, .int 0])), (cr, .inr (7, [.ref w0, .ref w1, .ref w2, .ref w3, .int 0, .int 0]))] [] sz)) (va_Qv (fun _ : Unit => True) (fun _ t => ∃ b2 : Int32, pst dC dI (va_A [(now, .inr (13, [.ref ro, .ref hto, .ref de, .ref cr, .ref co, .ref sh, .ref eo, .int mi, .int 0, .int 10, .int bt, .int 50, .int 0, .int 50])), (co, .inr (6, [.ref k0, .ref k1, .ref k2, .ref k3, .int 0])), (sh, .inr (12, [.ref p0, .ref p1, .ref p2, .ref p3, .ref p4, .int 0])), (de, .inr (8, [.ref v0, .ref v1, .ref v2, .int 0, .int (-1)])), (ro, .inr (11, [.ref a0, .ref a1, .ref a2, .int 0, .int 0])), (hto, .inr (10, [.ref g0, .ref g1, .ref g2, .int 0])), (cr, .inr (7, [.ref w0, .ref w1, .ref w2, .ref w3, .int 0, .int 0]))] sz) [(now, .inr (13, [.ref ro, .ref hto, .ref de, .ref cr, .ref co, .ref sh, .ref eo, .int (mi + 1), .int 0, .int 10, .int b2, .int 50, .int 0, .int 50])), (co, .inr (6, [.ref k0, .ref k1, .ref k2, .ref k3, .int 0])), (sh, .inr (12, [.ref p0, .ref p1, .ref p2, .ref p3, .ref p4, .int 0])), (de, .inr (8, [.ref v0, .ref v1, .ref v2, .int 0, .int (-1)])), (ro, .inr (11, [.ref a0, .ref a1, .ref a2, .int 0, .int 0])), (hto, .inr (10, [.ref g0, .ref g1, .ref g2, .int 0])), (cr, .inr (7, [.ref w0, .ref w1, .ref w2, .ref w3, .int 0, .int 0]))] [] t) (va_A [(now, .inr (13, [.ref ro, .ref hto, .ref de, .ref cr, .ref co, .ref sh, .ref eo, .int mi, .int 0, .int 10, .int bt, .int 50, .int 0, .int 50])), (co, .inr (6, [.ref k0, .ref k1, .ref k2, .ref k3, .int 0])), (sh, .inr (12, [.ref p0, .ref p1, .ref p2, .ref p3, .ref p4, .int 0])), (de, .inr (8, [.ref v0, .ref v1, .ref v2, .int 0, .int (-1)])), (ro, .inr (11, [.ref a0, .ref a1, .ref a2, .int 0, .int 0])), (hto, .inr (10, [.ref g0, .ref g1, .ref g2, .int 0])), (cr, .inr (7, [.ref w0, .ref w1, .ref w2, .ref w3, .int 0, .int 0]))] sz)) 0 0 (va_A [(now, .inr (13, [.ref ro, .ref hto, .ref de, .ref cr, .ref co, .ref sh, .ref eo, .int mi, .int 0, .int 10, .int bt, .int 50, .int 0, .int 50])), (co, .inr (6, [.ref k0, .ref k1, .ref k2, .ref k3, .int 0])), (sh, .inr (12, [.ref p0, .ref p1, .ref p2, .ref p3, .ref p4, .int 0])), (de, .inr (8, [.ref v0, .ref v1, .ref v2, .int 0, .int (-1)])), (ro, .inr (11, [.ref a0, .ref a1, .ref a2, .int 0, .int 0])), (hto, .inr (10, [.ref g0, .ref g1, .ref g2, .int 0])), (cr, .inr (7, [.ref w0, .ref w1, .ref w2, .ref w3, .int 0, .int 0]))] sz) := by
  refine Met.ofW (cc := cX7_passMinute) (maxL := 1) (ret := none) (by decide) rfl ?_
  intro p e s m args below meth c s₁ B hml hv
  obtain ⟨rfl, hsz, hP, hK, hD0, hE, hZ0⟩ := hv
  have hx := B.exec
  have hb := B.bytes
  have hr := B.returns
  have hts := atoms_spec (ws := wsX7_passMinute) B.pre
  have hown : s.vm.findClass RX7 = some m.cls := findClass_of_methodNamed B.named
  have hlocks := B.notSynchronized
  subst hsz
  have hD := hD0.self (sz := s.heap.size)
  generalize hAe : va_A [(now, .inr (13, [.ref ro, .ref hto, .ref de, .ref cr, .ref co, .ref sh, .ref eo, .int mi, .int 0, .int 10, .int bt, .int 50, .int 0, .int 50])), (co, .inr (6, [.ref k0, .ref k1, .ref k2, .ref k3, .int 0])), (sh, .inr (12, [.ref p0, .ref p1, .ref p2, .ref p3, .ref p4, .int 0])), (de, .inr (8, [.ref v0, .ref v1, .ref v2, .int 0, .int (-1)])), (ro, .inr (11, [.ref a0, .ref a1, .ref a2, .int 0, .int 0])), (hto, .inr (10, [.ref g0, .ref g1, .ref g2, .int 0])), (cr, .inr (7, [.ref w0, .ref w1, .ref w2, .ref w3, .int 0, .int 0]))] s.heap.size = A at hD hZ0 ⊢
  have hZ := hZ0
  have hA : ∀ q : Nat, s.heap.size ≤ q → A q := fun q h => by rw [← hAe]; exact Or.inr h
  have hS : va_S A s.heap s.heap [] := va_S.rf
  have hP : va_P (dC, dI) vwCl [(now, .inr (13, [.ref ro, .ref hto, .ref de, .ref cr, .ref co, .ref sh, .ref eo, .int mi, .int 0, .int 10, .int bt, .int 50, .int 0, .int 50])), (co, .inr (6, [.ref k0, .ref k1, .ref k2, .ref k3, .int 0])), (sh, .inr (12, [.ref p0, .ref p1, .ref p2, .ref p3, .ref p4, .int 0])), (de, .inr (8, [.ref v0, .ref v1, .ref v2, .int 0, .int (-1)])), (ro, .inr (11, [.ref a0, .ref a1, .ref a2, .int 0, .int 0])), (hto, .inr (10, [.ref g0, .ref g1, .ref g2, .int 0])), (cr, .inr (7, [.ref w0, .ref w1, .ref w2, .ref w3, .int 0, .int 0]))] s.heap := hP
  have hl := lv_entry ([.ref now]) (n := 1) (Nat.le_of_ble_eq_true rfl)
  rw [lg_entry_eq]
  generalize (lg_sl ([.ref now]) ++ List.replicate (1 - (lg_sl ([.ref now])).length) Slot.unset).toArray = ls at hl ⊢
  have hl : lv_has ls 1 [(0, .ref now)] := hl
  refine lv_aload_n hx hb dX7_passMinute_0 rfl (lv_at hl 0 rfl) ?_
  have hPc := hP.sub (ws' := [(now, .inr (13, [.ref ro, .ref hto, .ref de, .ref cr, .ref co, .ref sh, .ref eo, .int mi, .int 0, .int 10, .int bt, .int 50, .int 0, .int 50])), (co, .inr (6, [.ref k0, .ref k1, .ref k2, .ref k3, .int 0]))]) [0, 1] rfl
  have hDc := hD.sub (ws' := [(now, .inr (13, [.ref ro, .ref hto, .ref de, .ref cr, .ref co, .ref sh, .ref eo, .int mi, .int 0, .int 10, .int bt, .int 50, .int 0, .int 50])), (co, .inr (6, [.ref k0, .ref k1, .ref k2, .ref k3, .int 0]))]) [0, 1] (by decide) rfl
  have hKc := hK.sub (tys' := []) [] rfl
  have hFc := va_free (wc := [(now, .inr (13, [.ref ro, .ref hto, .ref de, .ref cr, .ref co, .ref sh, .ref eo, .int mi, .int 0, .int 10, .int bt, .int 50, .int 0, .int 50])), (co, .inr (6, [.ref k0, .ref k1, .ref k2, .ref k3, .int 0]))]) hD hS hA [0, 1] rfl
  refine va_callv (va_runV (As := []) (rest := []) ⟨hx, hb, hml, hown, hts⟩ (c_handle l dC dI E now ro hto de cr co sh eo mi bt k0 k1 k2 k3 s.heap.size) (cwV 0 hts gX7_passMinute_X7_handleCommands rfl rfl rfl (by decide +kernel) ⟨(Nat.le_of_ble_eq_true rfl), (Nat.le_of_ble_eq_true rfl)⟩) ⟨pre_blind, va_recv hKc hPc (ci := 13) (q0 := 0) rfl rfl, pre_call hPc hDc hKc hFc hE hZ hS⟩ rfl rfl hl.1 rfl (lv_room (Nat.le_of_ble_eq_true rfl)) dX7_passMinute_1 ⟨(Nat.le_of_ble_eq_true rfl), (Nat.le_of_ble_eq_true rfl)⟩) hS (fun q _ h => hFc q h) hFc (fun u t H1 locs1 ht hvm hw hB hz1 hk1 hS => ?_)
  obtain ⟨hP, hD, hK⟩ := pst_join (wc := [(now, .inr (13, [.ref ro, .ref hto, .ref de, .ref cr, .ref co, .ref sh, .ref eo, .int mi, .int 0, .int 10, .int bt, .int 50, .int 0, .int 50])), (co, .inr (6, [.ref k0, .ref k1, .ref k2, .ref k3, .int 0]))]) (wr := [(sh, .inr (12, [.ref p0, .ref p1, .ref p2, .ref p3, .ref p4, .int 0])), (de, .inr (8, [.ref v0, .ref v1, .ref v2, .int 0, .int (-1)])), (ro, .inr (11, [.ref a0, .ref a1, .ref a2, .int 0, .int 0])), (hto, .inr (10, [.ref g0, .ref g1, .ref g2, .int 0])), (cr, .inr (7, [.ref w0, .ref w1, .ref w2, .ref w3, .int 0, .int 0]))]) (w1 := [(now, .inr (13, [.ref ro, .ref hto, .ref de, .ref cr, .ref co, .ref sh, .ref eo, .int mi, .int 0, .int 10, .int bt, .int 50, .int 0, .int 50])), (co, .inr (6, [.ref k0, .ref k1, .ref k2, .ref k3, .int 0]))]) (tr := []) (t1 := []) hP hD hK [0, 1] [2, 3, 4, 5, 6] [] rfl rfl rfl (by decide) (by decide) hk1 hFc ht hvm hB
  generalize H1 = H at hP hS ⊢
  have hP : va_P (dC, dI) vwCl [(sh, .inr (12, [.ref p0, .ref p1, .ref p2, .ref p3, .ref p4, .int 0])), (de, .inr (8, [.ref v0, .ref v1, .ref v2, .int 0, .int (-1)])), (ro, .inr (11, [.ref a0, .ref a1, .ref a2, .int 0, .int 0])), (hto, .inr (10, [.ref g0, .ref g1, .ref g2, .int 0])), (cr, .inr (7, [.ref w0, .ref w1, .ref w2, .ref w3, .int 0, .int 0])), (now, .inr (13, [.ref ro, .ref hto, .ref de, .ref cr, .ref co, .ref sh, .ref eo, .int mi, .int 0, .int 10, .int bt, .int 50, .int 0, .int 50])), (co, .inr (6, [.ref k0, .ref k1, .ref k2, .ref k3, .int 0]))] H := hP
  have hD : va_D A [(sh, .inr (12, [.ref p0, .ref p1, .ref p2, .ref p3, .ref p4, .int 0])), (de, .inr (8, [.ref v0, .ref v1, .ref v2, .int 0, .int (-1)])), (ro, .inr (11, [.ref a0, .ref a1, .ref a2, .int 0, .int 0])), (hto, .inr (10, [.ref g0, .ref g1, .ref g2, .int 0])), (cr, .inr (7, [.ref w0, .ref w1, .ref w2, .ref w3, .int 0, .int 0])), (now, .inr (13, [.ref ro, .ref hto, .ref de, .ref cr, .ref co, .ref sh, .ref eo, .int mi, .int 0, .int 10, .int bt, .int 50, .int 0, .int 50])), (co, .inr (6, [.ref k0, .ref k1, .ref k2, .ref k3, .int 0]))] := hD
  have hK : va_K (dC, dI) vwCl [] s := hK
  refine W.widen (k := 0) (n := 0) (Nat.le_of_ble_eq_true rfl) (Nat.le_of_ble_eq_true rfl) ?_
  refine lv_aload_n hx hb dX7_passMinute_4 rfl (lv_at hl 0 rfl) ?_
  refine lv_aload_n hx hb dX7_passMinute_5 rfl (lv_at hl 0 rfl) ?_
  refine va_get (D := (dC, dI)) (ci := 13) (v := .ref sh) (C := RX7) (T := TX7) (N := 14) hx hb hts (by decide +kernel) hown hK hP 5 rfl rfl 5 (by decide) (hts (.fieldLink RX7 49 "Orbitdock$Station" "ships" "LOrbitdock$Ships;") (by decide +kernel)) (fun _ h9 => h9) rfl dX7_passMinute_6 ?_
  refine lv_aload_n hx hb dX7_passMinute_9 rfl (lv_at hl 0 rfl) ?_
  refine va_get (D := (dC, dI)) (ci := 13) (v := .ref eo) (C := RX7) (T := TX7) (N := 14) hx hb hts (by decide +kernel) hown hK hP 5 rfl rfl 6 (by decide) (hts (.fieldLink RX7 71 "Orbitdock$Station" "events" "LOrbitdock$Events;") (by decide +kernel)) (fun _ h9 => h9) rfl dX7_passMinute_10 ?_
  have hPc := hP.sub (ws' := [(sh, .inr (12, [.ref p0, .ref p1, .ref p2, .ref p3, .ref p4, .int 0]))]) [0] rfl
  have hDc := hD.sub (ws' := [(sh, .inr (12, [.ref p0, .ref p1, .ref p2, .ref p3, .ref p4, .int 0]))]) [0] (by decide) rfl
  have hKc := hK.sub (tys' := []) [] rfl
  have hFc := va_free (wc := [(sh, .inr (12, [.ref p0, .ref p1, .ref p2, .ref p3, .ref p4, .int 0]))]) hD hS hA [0] rfl
  refine va_calli (va_runV (As := [.ref eo]) (rest := [.ref now]) ⟨hx, hb, hml, hown, hts⟩ (c_advance l dC dI E sh eo p0 p1 p2 p3 p4 H.size) (cwV 1 hts gX7_passMinute_X6_advance rfl rfl rfl (by decide +kernel) ⟨(Nat.le_of_ble_eq_true rfl), (Nat.le_of_ble_eq_true rfl)⟩) ⟨pre_blind, va_recv hKc hPc (ci := 12) (q0 := 0) rfl rfl, pre_call hPc hDc hKc hFc hE hZ hS⟩ rfl rfl hl.1 rfl (lv_room (Nat.le_of_ble_eq_true rfl)) dX7_passMinute_13 ⟨(Nat.le_of_ble_eq_true rfl), (Nat.le_of_ble_eq_true rfl)⟩) hS (fun q _ h => hFc q h) hFc (fun r u t H1 locs1 ht hvm hw hB hz1 hk1 hS => ?_)
  have hw9 : r = 0 := hw
  rw [hw9]
  obtain ⟨hP, hD, hK⟩ := pst_join (wc := [(sh, .inr (12, [.ref p0, .ref p1, .ref p2, .ref p3, .ref p4, .int 0]))]) (wr := [(de, .inr (8, [.ref v0, .ref v1, .ref v2, .int 0, .int (-1)])), (ro, .inr (11, [.ref a0, .ref a1, .ref a2, .int 0, .int 0])), (hto, .inr (10, [.ref g0, .ref g1, .ref g2, .int 0])), (cr, .inr (7, [.ref w0, .ref w1, .ref w2, .ref w3, .int 0, .int 0])), (now, .inr (13, [.ref ro, .ref hto, .ref de, .ref cr, .ref co, .ref sh, .ref eo, .int mi, .int 0, .int 10, .int bt, .int 50, .int 0, .int 50])), (co, .inr (6, [.ref k0, .ref k1, .ref k2, .ref k3, .int 0]))]) (w1 := [(sh, .inr (12, [.ref p0, .ref p1, .ref p2, .ref p3, .ref p4, .int 0]))]) (tr := []) (t1 := []) hP hD hK [0] [1, 2, 3, 4, 5, 6] [] rfl rfl rfl (by decide) (by decide) hk1 hFc ht hvm hB
  generalize H1 = H at hP hS ⊢
  have hP : va_P (dC, dI) vwCl [(de, .inr (8, [.ref v0, .ref v1, .ref v2, .int 0, .int (-1)])), (ro, .inr (11, [.ref a0, .ref a1, .ref a2, .int 0, .int 0])), (hto, .inr (10, [.ref g0, .ref g1, .ref g2, .int 0])), (cr, .inr (7, [.ref w0, .ref w1, .ref w2, .ref w3, .int 0, .int 0])), (now, .inr (13, [.ref ro, .ref hto, .ref de, .ref cr, .ref co, .ref sh, .ref eo, .int mi, .int 0, .int 10, .int bt, .int 50, .int 0, .int 50])), (co, .inr (6, [.ref k0, .ref k1, .ref k2, .ref k3, .int 0])), (sh, .inr (12, [.ref p0, .ref p1, .ref p2, .ref p3, .ref p4, .int 0]))] H := hP
  have hD : va_D A [(de, .inr (8, [.ref v0, .ref v1, .ref v2, .int 0, .int (-1)])), (ro, .inr (11, [.ref a0, .ref a1, .ref a2, .int 0, .int 0])), (hto, .inr (10, [.ref g0, .ref g1, .ref g2, .int 0])), (cr, .inr (7, [.ref w0, .ref w1, .ref w2, .ref w3, .int 0, .int 0])), (now, .inr (13, [.ref ro, .ref hto, .ref de, .ref cr, .ref co, .ref sh, .ref eo, .int mi, .int 0, .int 10, .int bt, .int 50, .int 0, .int 50])), (co, .inr (6, [.ref k0, .ref k1, .ref k2, .ref k3, .int 0])), (sh, .inr (12, [.ref p0, .ref p1, .ref p2, .ref p3, .ref p4, .int 0]))] := hD
  have hK : va_K (dC, dI) vwCl [] s := hK
  refine W.widen (k := 0) (n := 0) (Nat.le_of_ble_eq_true rfl) (Nat.le_of_ble_eq_true rfl) ?_
  have hPc := hP.sub (ws' := [(now, .inr (13, [.ref ro, .ref hto, .ref de, .ref cr, .ref co, .ref sh, .ref eo, .int mi, .int 0, .int 10, .int bt, .int 50, .int 0, .int 50]))]) [4] rfl
  have hDc := hD.sub (ws' := [(now, .inr (13, [.ref ro, .ref hto, .ref de, .ref cr, .ref co, .ref sh, .ref eo, .int mi, .int 0, .int 10, .int bt, .int 50, .int 0, .int 50]))]) [4] (by decide) rfl
  have hKc := hK.sub (tys' := []) [] rfl
  have hFc := va_free (wc := [(now, .inr (13, [.ref ro, .ref hto, .ref de, .ref cr, .ref co, .ref sh, .ref eo, .int mi, .int 0, .int 10, .int bt, .int 50, .int 0, .int 50]))]) hD hS hA [4] rfl
  refine va_callv (va_runV (As := [.int 0]) (rest := []) ⟨hx, hb, hml, hown, hts⟩ (c_bringWater l dC dI E now ro hto de cr co sh eo mi bt H.size) (cwV 1 hts gX7_passMinute_X7_bringWater rfl rfl rfl (by decide +kernel) ⟨(Nat.le_of_ble_eq_true rfl), (Nat.le_of_ble_eq_true rfl)⟩) ⟨pre_blind, va_recv hKc hPc (ci := 13) (q0 := 0) rfl rfl, pre_call hPc hDc hKc hFc hE hZ hS⟩ rfl rfl hl.1 rfl (lv_room (Nat.le_of_ble_eq_true rfl)) dX7_passMinute_16 ⟨(Nat.le_of_ble_eq_true rfl), (Nat.le_of_ble_eq_true rfl)⟩) hS (fun q _ h => hFc q h) hFc (fun u t H1 locs1 ht hvm hw hB hz1 hk1 hS => ?_)
  obtain ⟨hP, hD, hK⟩ := pst_join (wc := [(now, .inr (13, [.ref ro, .ref hto, .ref de, .ref cr, .ref co, .ref sh, .ref eo, .int mi, .int 0, .int 10, .int bt, .int 50, .int 0, .int 50]))]) (wr := [(de, .inr (8, [.ref v0, .ref v1, .ref v2, .int 0, .int (-1)])), (ro, .inr (11, [.ref a0, .ref a1, .ref a2, .int 0, .int 0])), (hto, .inr (10, [.ref g0, .ref g1, .ref g2, .int 0])), (cr, .inr (7, [.ref w0, .ref w1, .ref w2, .ref w3, .int 0, .int 0])), (co, .inr (6, [.ref k0, .ref k1, .ref k2, .ref k3, .int 0])), (sh, .inr (12, [.ref p0, .ref p1, .ref p2, .ref p3, .ref p4, .int 0]))]) (w1 := [(now, .inr (13, [.ref ro, .ref hto, .ref de, .ref cr, .ref co, .ref sh, .ref eo, .int mi, .int 0, .int 10, .int bt, .int 50, .int 0, .int 50]))]) (tr := []) (t1 := []) hP hD hK [4] [0, 1, 2, 3, 5, 6] [] rfl rfl rfl (by decide) (by decide) hk1 hFc ht hvm hB
  generalize H1 = H at hP hS ⊢
  have hP : va_P (dC, dI) vwCl [(de, .inr (8, [.ref v0, .ref v1, .ref v2, .int 0, .int (-1)])), (ro, .inr (11, [.ref a0, .ref a1, .ref a2, .int 0, .int 0])), (hto, .inr (10, [.ref g0, .ref g1, .ref g2, .int 0])), (cr, .inr (7, [.ref w0, .ref w1, .ref w2, .ref w3, .int 0, .int 0])), (co, .inr (6, [.ref k0, .ref k1, .ref k2, .ref k3, .int 0])), (sh, .inr (12, [.ref p0, .ref p1, .ref p2, .ref p3, .ref p4, .int 0])), (now, .inr (13, [.ref ro, .ref hto, .ref de, .ref cr, .ref co, .ref sh, .ref eo, .int mi, .int 0, .int 10, .int bt, .int 50, .int 0, .int 50]))] H := hP
  have hD : va_D A [(de, .inr (8, [.ref v0, .ref v1, .ref v2, .int 0, .int (-1)])), (ro, .inr (11, [.ref a0, .ref a1, .ref a2, .int 0, .int 0])), (hto, .inr (10, [.ref g0, .ref g1, .ref g2, .int 0])), (cr, .inr (7, [.ref w0, .ref w1, .ref w2, .ref w3, .int 0, .int 0])), (co, .inr (6, [.ref k0, .ref k1, .ref k2, .ref k3, .int 0])), (sh, .inr (12, [.ref p0, .ref p1, .ref p2, .ref p3, .ref p4, .int 0])), (now, .inr (13, [.ref ro, .ref hto, .ref de, .ref cr, .ref co, .ref sh, .ref eo, .int mi, .int 0, .int 10, .int bt, .int 50, .int 0, .int 50]))] := hD
  have hK : va_K (dC, dI) vwCl [] s := hK
  refine W.widen (k := 0) (n := 0) (Nat.le_of_ble_eq_true rfl) (Nat.le_of_ble_eq_true rfl) ?_
  refine lv_aload_n hx hb dX7_passMinute_19 rfl (lv_at hl 0 rfl) ?_
  have hPc := hP.sub (ws' := [(now, .inr (13, [.ref ro, .ref hto, .ref de, .ref cr, .ref co, .ref sh, .ref eo, .int mi, .int 0, .int 10, .int bt, .int 50, .int 0, .int 50])), (de, .inr (8, [.ref v0, .ref v1, .ref v2, .int 0, .int (-1)]))]) [6, 0] rfl
  have hDc := hD.sub (ws' := [(now, .inr (13, [.ref ro, .ref hto, .ref de, .ref cr, .ref co, .ref sh, .ref eo, .int mi, .int 0, .int 10, .int bt, .int 50, .int 0, .int 50])), (de, .inr (8, [.ref v0, .ref v1, .ref v2, .int 0, .int (-1)]))]) [6, 0] (by decide) rfl
  have hKc := hK.sub (tys' := []) [] rfl
  have hFc := va_free (wc := [(now, .inr (13, [.ref ro, .ref hto, .ref de, .ref cr, .ref co, .ref sh, .ref eo, .int mi, .int 0, .int 10, .int bt, .int 50, .int 0, .int 50])), (de, .inr (8, [.ref v0, .ref v1, .ref v2, .int 0, .int (-1)]))]) hD hS hA [6, 0] rfl
  refine va_callv (va_runV (As := []) (rest := []) ⟨hx, hb, hml, hown, hts⟩ (c_runDevices l dC dI E now ro hto de cr co sh eo mi bt v0 v1 v2 H.size) (cwV 0 hts gX7_passMinute_X7_runDevices rfl rfl rfl (by decide +kernel) ⟨(Nat.le_of_ble_eq_true rfl), (Nat.le_of_ble_eq_true rfl)⟩) ⟨pre_blind, va_recv hKc hPc (ci := 13) (q0 := 0) rfl rfl, pre_call hPc hDc hKc hFc hE hZ hS⟩ rfl rfl hl.1 rfl (lv_room (Nat.le_of_ble_eq_true rfl)) dX7_passMinute_20 ⟨(Nat.le_of_ble_eq_true rfl), (Nat.le_of_ble_eq_true rfl)⟩) hS (fun q _ h => hFc q h) hFc (fun u t H1 locs1 ht hvm hw hB hz1 hk1 hS => ?_)
  obtain ⟨b2_4, hB⟩ := hB
  obtain ⟨hP, hD, hK⟩ := pst_join (wc := [(now, .inr (13, [.ref ro, .ref hto, .ref de, .ref cr, .ref co, .ref sh, .ref eo, .int mi, .int 0, .int 10, .int bt, .int 50, .int 0, .int 50])), (de, .inr (8, [.ref v0, .ref v1, .ref v2, .int 0, .int (-1)]))]) (wr := [(ro, .inr (11, [.ref a0, .ref a1, .ref a2, .int 0, .int 0])), (hto, .inr (10, [.ref g0, .ref g1, .ref g2, .int 0])), (cr, .inr (7, [.ref w0, .ref w1, .ref w2, .ref w3, .int 0, .int 0])), (co, .inr (6, [.ref k0, .ref k1, .ref k2, .ref k3, .int 0])), (sh, .inr (12, [.ref p0, .ref p1, .ref p2, .ref p3, .ref p4, .int 0]))]) (w1 := [(now, .inr (13, [.ref ro, .ref hto, .ref de, .ref cr, .ref co, .ref sh, .ref eo, .int mi, .int 0, .int 10, .int b2_4, .int 50, .int 0, .int 50])), (de, .inr (8, [.ref v0, .ref v1, .ref v2, .int 0, .int (-1)]))]) (tr := []) (t1 := []) hP hD hK [6, 0] [1, 2, 3, 4, 5] [] rfl rfl rfl (by decide) (by decide) hk1 hFc ht hvm hB
  generalize H1 = H at hP hS ⊢
  have hP : va_P (dC, dI) vwCl [(ro, .inr (11, [.ref a0, .ref a1, .ref a2, .int 0, .int 0])), (hto, .inr (10, [.ref g0, .ref g1, .ref g2, .int 0])), (cr, .inr (7, [.ref w0, .ref w1, .ref w2, .ref w3, .int 0, .int 0])), (co, .inr (6, [.ref k0, .ref k1, .ref k2, .ref k3, .int 0])), (sh, .inr (12, [.ref p0, .ref p1, .ref p2, .ref p3, .ref p4, .int 0])), (now, .inr (13, [.ref ro, .ref hto, .ref de, .ref cr, .ref co, .ref sh, .ref eo, .int mi, .int 0, .int 10, .int b2_4, .int 50, .int 0, .int 50])), (de, .inr (8, [.ref v0, .ref v1, .ref v2, .int 0, .int (-1)]))] H := hP
  have hD : va_D A [(ro, .inr (11, [.ref a0, .ref a1, .ref a2, .int 0, .int 0])), (hto, .inr (10, [.ref g0, .ref g1, .ref g2, .int 0])), (cr, .inr (7, [.ref w0, .ref w1, .ref w2, .ref w3, .int 0, .int 0])), (co, .inr (6, [.ref k0, .ref k1, .ref k2, .ref k3, .int 0])), (sh, .inr (12, [.ref p0, .ref p1, .ref p2, .ref p3, .ref p4, .int 0])), (now, .inr (13, [.ref ro, .ref hto, .ref de, .ref cr, .ref co, .ref sh, .ref eo, .int mi, .int 0, .int 10, .int b2_4, .int 50, .int 0, .int 50])), (de, .inr (8, [.ref v0, .ref v1, .ref v2, .int 0, .int (-1)]))] := hD
  have hK : va_K (dC, dI) vwCl [] s := hK
  refine W.widen (k := 0) (n := 0) (Nat.le_of_ble_eq_true rfl) (Nat.le_of_ble_eq_true rfl) ?_
  refine lv_aload_n hx hb dX7_passMinute_23 rfl (lv_at hl 0 rfl) ?_
  refine va_get (D := (dC, dI)) (ci := 13) (v := .ref ro) (C := RX7) (T := TX7) (N := 14) hx hb hts (by decide +kernel) hown hK hP 5 rfl rfl 0 (by decide) (hts (.fieldLink RX7 12 "Orbitdock$Station" "rooms" "LOrbitdock$Rooms;") (by decide +kernel)) (fun _ h9 => h9) rfl dX7_passMinute_24 ?_
  have hPc := hP.sub (ws' := [(ro, .inr (11, [.ref a0, .ref a1, .ref a2, .int 0, .int 0]))]) [0] rfl
  have hDc := hD.sub (ws' := [(ro, .inr (11, [.ref a0, .ref a1, .ref a2, .int 0, .int 0]))]) [0] (by decide) rfl
  have hKc := hK.sub (tys' := []) [] rfl
  have hFc := va_free (wc := [(ro, .inr (11, [.ref a0, .ref a1, .ref a2, .int 0, .int 0]))]) hD hS hA [0] rfl
  refine va_callv (va_runV (As := []) (rest := []) ⟨hx, hb, hml, hown, hts⟩ (c_leakOut l dC dI E ro a0 a1 a2 H.size) (cwV 0 hts gX7_passMinute_X5_leakOut rfl rfl rfl (by decide +kernel) ⟨(Nat.le_of_ble_eq_true rfl), (Nat.le_of_ble_eq_true rfl)⟩) ⟨pre_blind, va_recv hKc hPc (ci := 11) (q0 := 0) rfl rfl, pre_call hPc hDc hKc hFc hE hZ hS⟩ rfl rfl hl.1 rfl (lv_room (Nat.le_of_ble_eq_true rfl)) dX7_passMinute_27 ⟨(Nat.le_of_ble_eq_true rfl), (Nat.le_of_ble_eq_true rfl)⟩) hS (fun q _ h => hFc q h) hFc (fun u t H1 locs1 ht hvm hw hB hz1 hk1 hS => ?_)
  obtain ⟨hP, hD, hK⟩ := pst_join (wc := [(ro, .inr (11, [.ref a0, .ref a1, .ref a2, .int 0, .int 0]))]) (wr := [(hto, .inr (10, [.ref g0, .ref g1, .ref g2, .int 0])), (cr, .inr (7, [.ref w0, .ref w1, .ref w2, .ref w3, .int 0, .int 0])), (co, .inr (6, [.ref k0, .ref k1, .ref k2, .ref k3, .int 0])), (sh, .inr (12, [.ref p0, .ref p1, .ref p2, .ref p3, .ref p4, .int 0])), (now, .inr (13, [.ref ro, .ref hto, .ref de, .ref cr, .ref co, .ref sh, .ref eo, .int mi, .int 0, .int 10, .int b2_4, .int 50, .int 0, .int 50])), (de, .inr (8, [.ref v0, .ref v1, .ref v2, .int 0, .int (-1)]))]) (w1 := [(ro, .inr (11, [.ref a0, .ref a1, .ref a2, .int 0, .int 0]))]) (tr := []) (t1 := []) hP hD hK [0] [1, 2, 3, 4, 5, 6] [] rfl rfl rfl (by decide) (by decide) hk1 hFc ht hvm hB
  generalize H1 = H at hP hS ⊢
  have hP : va_P (dC, dI) vwCl [(hto, .inr (10, [.ref g0, .ref g1, .ref g2, .int 0])), (cr, .inr (7, [.ref w0, .ref w1, .ref w2, .ref w3, .int 0, .int 0])), (co, .inr (6, [.ref k0, .ref k1, .ref k2, .ref k3, .int 0])), (sh, .inr (12, [.ref p0, .ref p1, .ref p2, .ref p3, .ref p4, .int 0])), (now, .inr (13, [.ref ro, .ref hto, .ref de, .ref cr, .ref co, .ref sh, .ref eo, .int mi, .int 0, .int 10, .int b2_4, .int 50, .int 0, .int 50])), (de, .inr (8, [.ref v0, .ref v1, .ref v2, .int 0, .int (-1)])), (ro, .inr (11, [.ref a0, .ref a1, .ref a2, .int 0, .int 0]))] H := hP
  have hD : va_D A [(hto, .inr (10, [.ref g0, .ref g1, .ref g2, .int 0])), (cr, .inr (7, [.ref w0, .ref w1, .ref w2, .ref w3, .int 0, .int 0])), (co, .inr (6, [.ref k0, .ref k1, .ref k2, .ref k3, .int 0])), (sh, .inr (12, [.ref p0, .ref p1, .ref p2, .ref p3, .ref p4, .int 0])), (now, .inr (13, [.ref ro, .ref hto, .ref de, .ref cr, .ref co, .ref sh, .ref eo, .int mi, .int 0, .int 10, .int b2_4, .int 50, .int 0, .int 50])), (de, .inr (8, [.ref v0, .ref v1, .ref v2, .int 0, .int (-1)])), (ro, .inr (11, [.ref a0, .ref a1, .ref a2, .int 0, .int 0]))] := hD
  have hK : va_K (dC, dI) vwCl [] s := hK
  refine W.widen (k := 0) (n := 0) (Nat.le_of_ble_eq_true rfl) (Nat.le_of_ble_eq_true rfl) ?_
  refine lv_aload_n hx hb dX7_passMinute_30 rfl (lv_at hl 0 rfl) ?_
  have hPc := hP.sub (ws' := [(now, .inr (13, [.ref ro, .ref hto, .ref de, .ref cr, .ref co, .ref sh, .ref eo, .int mi, .int 0, .int 10, .int b2_4, .int 50, .int 0, .int 50])), (hto, .inr (10, [.ref g0, .ref g1, .ref g2, .int 0]))]) [4, 0] rfl
  have hDc := hD.sub (ws' := [(now, .inr (13, [.ref ro, .ref hto, .ref de, .ref cr, .ref co, .ref sh, .ref eo, .int mi, .int 0, .int 10, .int b2_4, .int 50, .int 0, .int 50])), (hto, .inr (10, [.ref g0, .ref g1, .ref g2, .int 0]))]) [4, 0] (by decide) rfl
  have hKc := hK.sub (tys' := []) [] rfl
  have hFc := va_free (wc := [(now, .inr (13, [.ref ro, .ref hto, .ref de, .ref cr, .ref co, .ref sh, .ref eo, .int mi, .int 0, .int 10, .int b2_4, .int 50, .int 0, .int 50])), (hto, .inr (10, [.ref g0, .ref g1, .ref g2, .int 0]))]) hD hS hA [4, 0] rfl
  refine va_callv (va_runV (As := []) (rest := []) ⟨hx, hb, hml, hown, hts⟩ (c_levelRooms l dC dI E now ro hto de cr co sh eo mi b2_4 g0 g1 g2 H.size) (cwV 0 hts gX7_passMinute_X7_levelRooms rfl rfl rfl (by decide +kernel) ⟨(Nat.le_of_ble_eq_true rfl), (Nat.le_of_ble_eq_true rfl)⟩) ⟨pre_blind, va_recv hKc hPc (ci := 13) (q0 := 0) rfl rfl, pre_call hPc hDc hKc hFc hE hZ hS⟩ rfl rfl hl.1 rfl (lv_room (Nat.le_of_ble_eq_true rfl)) dX7_passMinute_31 ⟨(Nat.le_of_ble_eq_true rfl), (Nat.le_of_ble_eq_true rfl)⟩) hS (fun q _ h => hFc q h) hFc (fun u t H1 locs1 ht hvm hw hB hz1 hk1 hS => ?_)
  obtain ⟨hP, hD, hK⟩ := pst_join (wc := [(now, .inr (13, [.ref ro, .ref hto, .ref de, .ref cr, .ref co, .ref sh, .ref eo, .int mi, .int 0, .int 10, .int b2_4, .int 50, .int 0, .int 50])), (hto, .inr (10, [.ref g0, .ref g1, .ref g2, .int 0]))]) (wr := [(cr, .inr (7, [.ref w0, .ref w1, .ref w2, .ref w3, .int 0, .int 0])), (co, .inr (6, [.ref k0, .ref k1, .ref k2, .ref k3, .int 0])), (sh, .inr (12, [.ref p0, .ref p1, .ref p2, .ref p3, .ref p4, .int 0])), (de, .inr (8, [.ref v0, .ref v1, .ref v2, .int 0, .int (-1)])), (ro, .inr (11, [.ref a0, .ref a1, .ref a2, .int 0, .int 0]))]) (w1 := [(now, .inr (13, [.ref ro, .ref hto, .ref de, .ref cr, .ref co, .ref sh, .ref eo, .int mi, .int 0, .int 10, .int b2_4, .int 50, .int 0, .int 50])), (hto, .inr (10, [.ref g0, .ref g1, .ref g2, .int 0]))]) (tr := []) (t1 := []) hP hD hK [4, 0] [1, 2, 3, 5, 6] [] rfl rfl rfl (by decide) (by decide) hk1 hFc ht hvm hB
  generalize H1 = H at hP hS ⊢
  have hP : va_P (dC, dI) vwCl [(cr, .inr (7, [.ref w0, .ref w1, .ref w2, .ref w3, .int 0, .int 0])), (co, .inr (6, [.ref k0, .ref k1, .ref k2, .ref k3, .int 0])), (sh, .inr (12, [.ref p0, .ref p1, .ref p2, .ref p3, .ref p4, .int 0])), (de, .inr (8, [.ref v0, .ref v1, .ref v2, .int 0, .int (-1)])), (ro, .inr (11, [.ref a0, .ref a1, .ref a2, .int 0, .int 0])), (now, .inr (13, [.ref ro, .ref hto, .ref de, .ref cr, .ref co, .ref sh, .ref eo, .int mi, .int 0, .int 10, .int b2_4, .int 50, .int 0, .int 50])), (hto, .inr (10, [.ref g0, .ref g1, .ref g2, .int 0]))] H := hP
  have hD : va_D A [(cr, .inr (7, [.ref w0, .ref w1, .ref w2, .ref w3, .int 0, .int 0])), (co, .inr (6, [.ref k0, .ref k1, .ref k2, .ref k3, .int 0])), (sh, .inr (12, [.ref p0, .ref p1, .ref p2, .ref p3, .ref p4, .int 0])), (de, .inr (8, [.ref v0, .ref v1, .ref v2, .int 0, .int (-1)])), (ro, .inr (11, [.ref a0, .ref a1, .ref a2, .int 0, .int 0])), (now, .inr (13, [.ref ro, .ref hto, .ref de, .ref cr, .ref co, .ref sh, .ref eo, .int mi, .int 0, .int 10, .int b2_4, .int 50, .int 0, .int 50])), (hto, .inr (10, [.ref g0, .ref g1, .ref g2, .int 0]))] := hD
  have hK : va_K (dC, dI) vwCl [] s := hK
  refine W.widen (k := 0) (n := 0) (Nat.le_of_ble_eq_true rfl) (Nat.le_of_ble_eq_true rfl) ?_
  refine lv_aload_n hx hb dX7_passMinute_34 rfl (lv_at hl 0 rfl) ?_
  refine va_get (D := (dC, dI)) (ci := 13) (v := .ref cr) (C := RX7) (T := TX7) (N := 14) hx hb hts (by decide +kernel) hown hK hP 5 rfl rfl 3 (by decide) (hts (.fieldLink RX7 35 "Orbitdock$Station" "crew" "LOrbitdock$Crew;") (by decide +kernel)) (fun _ h9 => h9) rfl dX7_passMinute_35 ?_
  refine lv_aload_n hx hb dX7_passMinute_38 rfl (lv_at hl 0 rfl) ?_
  refine va_get (D := (dC, dI)) (ci := 13) (v := .ref ro) (C := RX7) (T := TX7) (N := 14) hx hb hts (by decide +kernel) hown hK hP 5 rfl rfl 0 (by decide) (hts (.fieldLink RX7 12 "Orbitdock$Station" "rooms" "LOrbitdock$Rooms;") (by decide +kernel)) (fun _ h9 => h9) rfl dX7_passMinute_39 ?_
  refine lv_aload_n hx hb dX7_passMinute_42 rfl (lv_at hl 0 rfl) ?_
  refine va_get (D := (dC, dI)) (ci := 13) (v := .ref eo) (C := RX7) (T := TX7) (N := 14) hx hb hts (by decide +kernel) hown hK hP 5 rfl rfl 6 (by decide) (hts (.fieldLink RX7 71 "Orbitdock$Station" "events" "LOrbitdock$Events;") (by decide +kernel)) (fun _ h9 => h9) rfl dX7_passMinute_43 ?_
  refine lv_aload_n hx hb dX7_passMinute_46 rfl (lv_at hl 0 rfl) ?_
  refine va_get (D := (dC, dI)) (ci := 13) (v := .int mi) (C := RX7) (T := TX7) (N := 14) hx hb hts (by decide +kernel) hown hK hP 5 rfl rfl 7 (by decide) (hts (.fieldLink RX7 94 "Orbitdock$Station" "minute" "I") (by decide +kernel)) (fun _ h9 => h9) rfl dX7_passMinute_47 ?_
  have hPc := hP.sub (ws' := [(cr, .inr (7, [.ref w0, .ref w1, .ref w2, .ref w3, .int 0, .int 0]))]) [0] rfl
  have hDc := hD.sub (ws' := [(cr, .inr (7, [.ref w0, .ref w1, .ref w2, .ref w3, .int 0, .int 0]))]) [0] (by decide) rfl
  have hKc := hK.sub (tys' := []) [] rfl
  have hFc := va_free (wc := [(cr, .inr (7, [.ref w0, .ref w1, .ref w2, .ref w3, .int 0, .int 0]))]) hD hS hA [0] rfl
  refine va_callv (va_runV (As := [.ref ro, .ref eo, .int mi]) (rest := []) ⟨hx, hb, hml, hown, hts⟩ (c_breathe l dC dI E cr ro eo w0 w1 w2 w3 mi H.size) (cwV 3 hts gX7_passMinute_X1_breathe rfl rfl rfl (by decide +kernel) ⟨(Nat.le_of_ble_eq_true rfl), (Nat.le_of_ble_eq_true rfl)⟩) ⟨pre_blind, va_recv hKc hPc (ci := 7) (q0 := 0) rfl rfl, pre_call hPc hDc hKc hFc hE hZ hS⟩ rfl rfl hl.1 rfl (lv_room (Nat.le_of_ble_eq_true rfl)) dX7_passMinute_50 ⟨(Nat.le_of_ble_eq_true rfl), (Nat.le_of_ble_eq_true rfl)⟩) hS (fun q _ h => hFc q h) hFc (fun u t H1 locs1 ht hvm hw hB hz1 hk1 hS => ?_)
  obtain ⟨hP, hD, hK⟩ := pst_join (wc := [(cr, .inr (7, [.ref w0, .ref w1, .ref w2, .ref w3, .int 0, .int 0]))]) (wr := [(co, .inr (6, [.ref k0, .ref k1, .ref k2, .ref k3, .int 0])), (sh, .inr (12, [.ref p0, .ref p1, .ref p2, .ref p3, .ref p4, .int 0])), (de, .inr (8, [.ref v0, .ref v1, .ref v2, .int 0, .int (-1)])), (ro, .inr (11, [.ref a0, .ref a1, .ref a2, .int 0, .int 0])), (now, .inr (13, [.ref ro, .ref hto, .ref de, .ref cr, .ref co, .ref sh, .ref eo, .int mi, .int 0, .int 10, .int b2_4, .int 50, .int 0, .int 50])), (hto, .inr (10, [.ref g0, .ref g1, .ref g2, .int 0]))]) (w1 := [(cr, .inr (7, [.ref w0, .ref w1, .ref w2, .ref w3, .int 0, .int 0]))]) (tr := []) (t1 := []) hP hD hK [0] [1, 2, 3, 4, 5, 6] [] rfl rfl rfl (by decide) (by decide) hk1 hFc ht hvm hB
  generalize H1 = H at hP hS ⊢
  have hP : va_P (dC, dI) vwCl [(co, .inr (6, [.ref k0, .ref k1, .ref k2, .ref k3, .int 0])), (sh, .inr (12, [.ref p0, .ref p1, .ref p2, .ref p3, .ref p4, .int 0])), (de, .inr (8, [.ref v0, .ref v1, .ref v2, .int 0, .int (-1)])), (ro, .inr (11, [.ref a0, .ref a1, .ref a2, .int 0, .int 0])), (now, .inr (13, [.ref ro, .ref hto, .ref de, .ref cr, .ref co, .ref sh, .ref eo, .int mi, .int 0, .int 10, .int b2_4, .int 50, .int 0, .int 50])), (hto, .inr (10, [.ref g0, .ref g1, .ref g2, .int 0])), (cr, .inr (7, [.ref w0, .ref w1, .ref w2, .ref w3, .int 0, .int 0]))] H := hP
  have hD : va_D A [(co, .inr (6, [.ref k0, .ref k1, .ref k2, .ref k3, .int 0])), (sh, .inr (12, [.ref p0, .ref p1, .ref p2, .ref p3, .ref p4, .int 0])), (de, .inr (8, [.ref v0, .ref v1, .ref v2, .int 0, .int (-1)])), (ro, .inr (11, [.ref a0, .ref a1, .ref a2, .int 0, .int 0])), (now, .inr (13, [.ref ro, .ref hto, .ref de, .ref cr, .ref co, .ref sh, .ref eo, .int mi, .int 0, .int 10, .int b2_4, .int 50, .int 0, .int 50])), (hto, .inr (10, [.ref g0, .ref g1, .ref g2, .int 0])), (cr, .inr (7, [.ref w0, .ref w1, .ref w2, .ref w3, .int 0, .int 0]))] := hD
  have hK : va_K (dC, dI) vwCl [] s := hK
  refine W.widen (k := 0) (n := 0) (Nat.le_of_ble_eq_true rfl) (Nat.le_of_ble_eq_true rfl) ?_
  refine lv_aload_n hx hb dX7_passMinute_53 rfl (lv_at hl 0 rfl) ?_
  refine va_get (D := (dC, dI)) (ci := 13) (v := .int 0) (C := RX7) (T := TX7) (N := 14) hx hb hts (by decide +kernel) hown hK hP 4 rfl rfl 8 (by decide) (hts (.fieldLink RX7 97 "Orbitdock$Station" "safe" "Z") (by decide +kernel)) (fun _ h9 => h9) rfl dX7_passMinute_54 ?_
  refine lv_if_ne (tgt := 78) hx hb dX7_passMinute_57 (by decide) (fun c9 => absurd (by decide) c9) (fun _ => ?_)
  refine lv_aload_n hx hb dX7_passMinute_60 rfl (lv_at hl 0 rfl) ?_
  refine va_get (D := (dC, dI)) (ci := 13) (v := .ref cr) (C := RX7) (T := TX7) (N := 14) hx hb hts (by decide +kernel) hown hK hP 4 rfl rfl 3 (by decide) (hts (.fieldLink RX7 35 "Orbitdock$Station" "crew" "LOrbitdock$Crew;") (by decide +kernel)) (fun _ h9 => h9) rfl dX7_passMinute_61 ?_
  refine lv_aload_n hx hb dX7_passMinute_64 rfl (lv_at hl 0 rfl) ?_
  refine va_get (D := (dC, dI)) (ci := 13) (v := .ref ro) (C := RX7) (T := TX7) (N := 14) hx hb hts (by decide +kernel) hown hK hP 4 rfl rfl 0 (by decide) (hts (.fieldLink RX7 12 "Orbitdock$Station" "rooms" "LOrbitdock$Rooms;") (by decide +kernel)) (fun _ h9 => h9) rfl dX7_passMinute_65 ?_
  have hPc := hP.sub (ws' := [(cr, .inr (7, [.ref w0, .ref w1, .ref w2, .ref w3, .int 0, .int 0]))]) [6] rfl
  have hDc := hD.sub (ws' := [(cr, .inr (7, [.ref w0, .ref w1, .ref w2, .ref w3, .int 0, .int 0]))]) [6] (by decide) rfl
  have hKc := hK.sub (tys' := []) [] rfl
  have hFc := va_free (wc := [(cr, .inr (7, [.ref w0, .ref w1, .ref w2, .ref w3, .int 0, .int 0]))]) hD hS hA [6] rfl
  refine va_calli (va_runV (As := [.ref ro]) (rest := []) ⟨hx, hb, hml, hown, hts⟩ (c_isInDanger l dC dI E cr ro w0 w1 w2 w3 H.size) (cwV 1 hts gX7_passMinute_X1_isInDanger rfl rfl rfl (by decide +kernel) ⟨(Nat.le_of_ble_eq_true rfl), (Nat.le_of_ble_eq_true rfl)⟩) ⟨pre_blind, va_recv hKc hPc (ci := 7) (q0 := 0) rfl rfl, pre_call hPc hDc hKc hFc hE hZ hS⟩ rfl rfl hl.1 rfl (lv_room (Nat.le_of_ble_eq_true rfl)) dX7_passMinute_68 ⟨(Nat.le_of_ble_eq_true rfl), (Nat.le_of_ble_eq_true rfl)⟩) hS (fun q _ h => hFc q h) hFc (fun r u t H1 locs1 ht hvm hw hB hz1 hk1 hS => ?_)
  have hw9 : r = 0 := hw
  rw [hw9]
  obtain ⟨hP, hD, hK⟩ := pst_join (wc := [(cr, .inr (7, [.ref w0, .ref w1, .ref w2, .ref w3, .int 0, .int 0]))]) (wr := [(co, .inr (6, [.ref k0, .ref k1, .ref k2, .ref k3, .int 0])), (sh, .inr (12, [.ref p0, .ref p1, .ref p2, .ref p3, .ref p4, .int 0])), (de, .inr (8, [.ref v0, .ref v1, .ref v2, .int 0, .int (-1)])), (ro, .inr (11, [.ref a0, .ref a1, .ref a2, .int 0, .int 0])), (now, .inr (13, [.ref ro, .ref hto, .ref de, .ref cr, .ref co, .ref sh, .ref eo, .int mi, .int 0, .int 10, .int b2_4, .int 50, .int 0, .int 50])), (hto, .inr (10, [.ref g0, .ref g1, .ref g2, .int 0]))]) (w1 := [(cr, .inr (7, [.ref w0, .ref w1, .ref w2, .ref w3, .int 0, .int 0]))]) (tr := []) (t1 := []) hP hD hK [6] [0, 1, 2, 3, 4, 5] [] rfl rfl rfl (by decide) (by decide) hk1 hFc ht hvm hB
  generalize H1 = H at hP hS ⊢
  have hP : va_P (dC, dI) vwCl [(co, .inr (6, [.ref k0, .ref k1, .ref k2, .ref k3, .int 0])), (sh, .inr (12, [.ref p0, .ref p1, .ref p2, .ref p3, .ref p4, .int 0])), (de, .inr (8, [.ref v0, .ref v1, .ref v2, .int 0, .int (-1)])), (ro, .inr (11, [.ref a0, .ref a1, .ref a2, .int 0, .int 0])), (now, .inr (13, [.ref ro, .ref hto, .ref de, .ref cr, .ref co, .ref sh, .ref eo, .int mi, .int 0, .int 10, .int b2_4, .int 50, .int 0, .int 50])), (hto, .inr (10, [.ref g0, .ref g1, .ref g2, .int 0])), (cr, .inr (7, [.ref w0, .ref w1, .ref w2, .ref w3, .int 0, .int 0]))] H := hP
  have hD : va_D A [(co, .inr (6, [.ref k0, .ref k1, .ref k2, .ref k3, .int 0])), (sh, .inr (12, [.ref p0, .ref p1, .ref p2, .ref p3, .ref p4, .int 0])), (de, .inr (8, [.ref v0, .ref v1, .ref v2, .int 0, .int (-1)])), (ro, .inr (11, [.ref a0, .ref a1, .ref a2, .int 0, .int 0])), (now, .inr (13, [.ref ro, .ref hto, .ref de, .ref cr, .ref co, .ref sh, .ref eo, .int mi, .int 0, .int 10, .int b2_4, .int 50, .int 0, .int 50])), (hto, .inr (10, [.ref g0, .ref g1, .ref g2, .int 0])), (cr, .inr (7, [.ref w0, .ref w1, .ref w2, .ref w3, .int 0, .int 0]))] := hD
  have hK : va_K (dC, dI) vwCl [] s := hK
  refine W.widen (k := 0) (n := 0) (Nat.le_of_ble_eq_true rfl) (Nat.le_of_ble_eq_true rfl) ?_
  refine lv_if_eq (tgt := 78) hx hb dX7_passMinute_71 (by decide) (fun _ => ?_) (fun c9 => absurd (by decide) c9)
  refine lv_aload_n hx hb dX7_passMinute_78 rfl (lv_at hl 0 rfl) ?_
  refine lv_dup hx hb dX7_passMinute_79 rfl ?_
  refine va_get (D := (dC, dI)) (ci := 13) (v := .int mi) (C := RX7) (T := TX7) (N := 14) hx hb hts (by decide +kernel) hown hK hP 4 rfl rfl 7 (by decide) (hts (.fieldLink RX7 94 "Orbitdock$Station" "minute" "I") (by decide +kernel)) (fun _ h9 => h9) rfl dX7_passMinute_80 ?_
  refine lv_iconst (v := 1) hx hb dX7_passMinute_83 (by decide) ?_
  refine lv_iadd hx hb dX7_passMinute_84 ?_
  refine va_put (D := (dC, dI)) (ci := 13) (v := .int (mi + 1)) (ty := .int) (C := RX7) (T := TX7) (N := 14) hx hb hts (by decide +kernel) tyX7 tyX7_ok nmX7 hown hK hP hD hS 4 rfl rfl 7 (by decide) (hts (.fieldLink RX7 94 "Orbitdock$Station" "minute" "I") (by decide +kernel)) (fun _ h9 => h9) rfl (by decide +kernel) rfl rfl (Nat.le_of_ble_eq_true rfl) dX7_passMinute_85 (fun H locs hP hD hS => ?_)
  have hP : va_P (dC, dI) vwCl [(co, .inr (6, [.ref k0, .ref k1, .ref k2, .ref k3, .int 0])), (sh, .inr (12, [.ref p0, .ref p1, .ref p2, .ref p3, .ref p4, .int 0])), (de, .inr (8, [.ref v0, .ref v1, .ref v2, .int 0, .int (-1)])), (ro, .inr (11, [.ref a0, .ref a1, .ref a2, .int 0, .int 0])), (now, .inr (13, [.ref ro, .ref hto, .ref de, .ref cr, .ref co, .ref sh, .ref eo, .int (mi + 1), .int 0, .int 10, .int b2_4, .int 50, .int 0, .int 50])), (hto, .inr (10, [.ref g0, .ref g1, .ref g2, .int 0])), (cr, .inr (7, [.ref w0, .ref w1, .ref w2, .ref w3, .int 0, .int 0]))] H := hP
  have hD : va_D A [(co, .inr (6, [.ref k0, .ref k1, .ref k2, .ref k3, .int 0])), (sh, .inr (12, [.ref p0, .ref p1, .ref p2, .ref p3, .ref p4, .int 0])), (de, .inr (8, [.ref v0, .ref v1, .ref v2, .int 0, .int (-1)])), (ro, .inr (11, [.ref a0, .ref a1, .ref a2, .int 0, .int 0])), (now, .inr (13, [.ref ro, .ref hto, .ref de, .ref cr, .ref co, .ref sh, .ref eo, .int (mi + 1), .int 0, .int 10, .int b2_4, .int 50, .int 0, .int 50])), (hto, .inr (10, [.ref g0, .ref g1, .ref g2, .int 0])), (cr, .inr (7, [.ref w0, .ref w1, .ref w2, .ref w3, .int 0, .int 0]))] := hD
  have hP9 := hP.sub (ws' := [(now, .inr (13, [.ref ro, .ref hto, .ref de, .ref cr, .ref co, .ref sh, .ref eo, .int (mi + 1), .int 0, .int 10, .int b2_4, .int 50, .int 0, .int 50])), (co, .inr (6, [.ref k0, .ref k1, .ref k2, .ref k3, .int 0])), (sh, .inr (12, [.ref p0, .ref p1, .ref p2, .ref p3, .ref p4, .int 0])), (de, .inr (8, [.ref v0, .ref v1, .ref v2, .int 0, .int (-1)])), (ro, .inr (11, [.ref a0, .ref a1, .ref a2, .int 0, .int 0])), (hto, .inr (10, [.ref g0, .ref g1, .ref g2, .int 0])), (cr, .inr (7, [.ref w0, .ref w1, .ref w2, .ref w3, .int 0, .int 0]))]) [4, 0, 1, 2, 3, 5, 6] rfl
  have hD9 := hD.sub (ws' := [(now, .inr (13, [.ref ro, .ref hto, .ref de, .ref cr, .ref co, .ref sh, .ref eo, .int (mi + 1), .int 0, .int 10, .int b2_4, .int 50, .int 0, .int 50])), (co, .inr (6, [.ref k0, .ref k1, .ref k2, .ref k3, .int 0])), (sh, .inr (12, [.ref p0, .ref p1, .ref p2, .ref p3, .ref p4, .int 0])), (de, .inr (8, [.ref v0, .ref v1, .ref v2, .int 0, .int (-1)])), (ro, .inr (11, [.ref a0, .ref a1, .ref a2, .int 0, .int 0])), (hto, .inr (10, [.ref g0, .ref g1, .ref g2, .int 0])), (cr, .inr (7, [.ref w0, .ref w1, .ref w2, .ref w3, .int 0, .int 0]))]) [4, 0, 1, 2, 3, 5, 6] (by decide) rfl
  have hK9 := hK.sub (tys' := []) [] rfl
  refine W.widen (k := 0) (n := 0) (Nat.le_of_ble_eq_true rfl) (Nat.le_of_ble_eq_true rfl) ?_
  exact W.vret hx hb hr (fun t ht hW => ⟨⟨(), rfl, trivial, ⟨b2_4, pst_of hP9 hD9 hK9 ht hW⟩⟩, hS.F ht⟩) hS.2.2 dX7_passMinute_88

set_option maxHeartbeats 4000000 in
set_option maxRecDepth 100000 in
theorem c_rs_isDanger (l : Launch) (dC : Nat → ClassId) (dI : Nat → Nat → Nat) (E : Nat → Nat) (h : Nat) (l0 : Nat) (l1 : Nat) (l2 : Nat) (l3 : Nat) (l4 : Nat) (l5 : Nat) (l6 : Nat) (l7 : Nat) (l8 : Nat) (pn : Int32) (bt : Int32) (wt : Int32) (mi : Int32) (m5 : Int32) (d5 : Nat) (sz : Nat) : Met l yX14_isDanger wsX14_isDanger ({ frames := 3, cells := 1, slots := 4, locals := 53 }) (va_Pc [.ref h] (pre dC dI E [(h, .inr (20, [.ref l0, .ref l1, .ref l2, .ref l3, .ref l4, .ref l5, .ref l6, .ref l7, .ref l8, .int pn, .int bt, .int wt, .int mi, .int 0])), (l5, .inr (5, [.int m5, .ref d5, .int 0]))] [] sz)) (va_Qi (fun (r : Int32) (_ : Unit) => r = 0) (fun _ t => pst dC dI (va_A [(h, .inr (20, [.ref l0, .ref l1, .ref l2, .ref l3, .ref l4, .ref l5, .ref l6, .ref l7, .ref l8, .int pn, .int bt, .int wt, .int mi, .int 0])), (l5, .inr (5, [.int m5, .ref d5, .int 0]))] sz) [(h, .inr (20, [.ref l0, .ref l1, .ref l2, .ref l3, .ref l4, .ref l5, .ref l6, .ref l7, .ref l8, .int pn, .int bt, .int wt, .int mi, .int 0])), (l5, .inr (5, [.int m5, .ref d5, .int 0]))] [] t) (va_A [(h, .inr (20, [.ref l0, .ref l1, .ref l2, .ref l3, .ref l4, .ref l5, .ref l6, .ref l7, .ref l8, .int pn, .int bt, .int wt, .int mi, .int 0])), (l5, .inr (5, [.int m5, .ref d5, .int 0]))] sz)) 1 4 (va_A [(h, .inr (20, [.ref l0, .ref l1, .ref l2, .ref l3, .ref l4, .ref l5, .ref l6, .ref l7, .ref l8, .int pn, .int bt, .int wt, .int mi, .int 0])), (l5, .inr (5, [.int m5, .ref d5, .int 0]))] sz) := by
  refine Met.ofW (cc := cX14_isDanger) (maxL := 4) (ret := (some .boolean)) (by decide) rfl ?_
  intro p e s m args below meth c s₁ B hml hv
  obtain ⟨rfl, hsz, hP, hK, hD0, hE, hZ0⟩ := hv
  have hx := B.exec
  have hb := B.bytes
  have hr := B.returns
  have hts := atoms_spec (ws := wsX14_isDanger) B.pre
  have hown : s.vm.findClass RX14 = some m.cls := findClass_of_methodNamed B.named
  have hlocks := B.notSynchronized
  subst hsz
  have hD := hD0.self (sz := s.heap.size)
  generalize hAe : va_A [(h, .inr (20, [.ref l0, .ref l1, .ref l2, .ref l3, .ref l4, .ref l5, .ref l6, .ref l7, .ref l8, .int pn, .int bt, .int wt, .int mi, .int 0])), (l5, .inr (5, [.int m5, .ref d5, .int 0]))] s.heap.size = A at hD hZ0 ⊢
  have hZ := hZ0
  have hA : ∀ q : Nat, s.heap.size ≤ q → A q := fun q h => by rw [← hAe]; exact Or.inr h
  have hS : va_S A s.heap s.heap [] := va_S.rf
  have hP : va_P (dC, dI) vwCl [(h, .inr (20, [.ref l0, .ref l1, .ref l2, .ref l3, .ref l4, .ref l5, .ref l6, .ref l7, .ref l8, .int pn, .int bt, .int wt, .int mi, .int 0])), (l5, .inr (5, [.int m5, .ref d5, .int 0]))] s.heap := hP
  have hl := lv_entry ([.ref h]) (n := 4) (Nat.le_of_ble_eq_true rfl)
  rw [lg_entry_eq]
  generalize (lg_sl ([.ref h]) ++ List.replicate (4 - (lg_sl ([.ref h])).length) Slot.unset).toArray = ls at hl ⊢
  have hl : lv_has ls 4 [(0, .ref h)] := hl
  refine lv_iconst (v := 0) hx hb dX14_isDanger_0 (by decide) ?_
  refine lv_istore_n (lv' := [(1, .int 0), (0, .ref h)]) hx hb dX14_isDanger_1 rfl hl (by decide) rfl (fun ls hl => ?_)
  refine lv_aload_n hx hb dX14_isDanger_2 rfl (lv_at hl 1 rfl) ?_
  refine va_get (D := (dC, dI)) (ci := 20) (v := .ref l5) (C := RX14) (T := TX14) (N := 14) hx hb hts (by decide +kernel) hown hK hP 0 rfl rfl 5 (by decide) (hts (.fieldLink RX14 30 "OrbitdockModel$Station" "people" "Ljava/util/List;") (by decide +kernel)) (fun _ h9 => h9) rfl dX14_isDanger_3 ?_
  have hPc := hP.sub (ws' := [(l5, .inr (5, [.int m5, .ref d5, .int 0]))]) [1] rfl
  have hDc := hD.sub (ws' := [(l5, .inr (5, [.int m5, .ref d5, .int 0]))]) [1] (by decide) rfl
  have hKc := hK.sub (tys' := []) [] rfl
  have hFc := va_free (wc := [(l5, .inr (5, [.int m5, .ref d5, .int 0]))]) hD hS hA [1] rfl
  refine va_callFr (va_runF (As := []) (rest := []) (hK.1 5 _ rfl).2 ⟨hx, hb, hml, hown, hts⟩ (c_al_iterator l dC dI E l5 d5 m5 0 s.heap.size) (va_cwF 0 hts gX14_isDanger_Jx4a65c_iterator_32c93_f66Jx4a65c rfl rfl rfl hE.1.2.2.1 (by decide +kernel) ⟨(Nat.le_of_ble_eq_true rfl), (Nat.le_of_ble_eq_true rfl)⟩) ⟨pre_blind, va_recv hKc hPc (ci := 5) (q0 := 0) rfl rfl, pre_call hPc hDc hKc hFc hE hZ hS⟩ rfl rfl hl.1 rfl (lv_room (Nat.le_of_ble_eq_true rfl)) dX14_isDanger_6 ⟨(Nat.le_of_ble_eq_true rfl), (Nat.le_of_ble_eq_true rfl)⟩) hS (fun q _ h => hFc q h) hFc (fun u q_1 t H1 locs1 ht hvm hw hB hz1 hk1 hS => ?_)
  try dsimp only at hB
  obtain ⟨hP, hD, hK⟩ := pst_join (wc := [(l5, .inr (5, [.int m5, .ref d5, .int 0]))]) (wr := [(h, .inr (20, [.ref l0, .ref l1, .ref l2, .ref l3, .ref l4, .ref l5, .ref l6, .ref l7, .ref l8, .int pn, .int bt, .int wt, .int mi, .int 0]))]) (w1 := [(q_1, .inr (4, [.int 0, .int (-1), .int m5, .ref l5])), (l5, .inr (5, [.int m5, .ref d5, .int 0]))]) (tr := []) (t1 := []) hP hD hK [1] [0] [] rfl rfl rfl (by decide) (by decide) hk1 hFc ht hvm hB
  generalize H1 = H at hP hS ⊢
  have hP : va_P (dC, dI) vwCl [(h, .inr (20, [.ref l0, .ref l1, .ref l2, .ref l3, .ref l4, .ref l5, .ref l6, .ref l7, .ref l8, .int pn, .int bt, .int wt, .int mi, .int 0])), (q_1, .inr (4, [.int 0, .int (-1), .int m5, .ref l5])), (l5, .inr (5, [.int m5, .ref d5, .int 0]))] H := hP
  have hD : va_D A [(h, .inr (20, [.ref l0, .ref l1, .ref l2, .ref l3, .ref l4, .ref l5, .ref l6, .ref l7, .ref l8, .int pn, .int bt, .int wt, .int mi, .int 0])), (q_1, .inr (4, [.int 0, .int (-1), .int m5, .ref l5])), (l5, .inr (5, [.int m5, .ref d5, .int 0]))] := hD
  have hK : va_K (dC, dI) vwCl [] s := hK
  refine W.widen (k := 1) (n := 4) (Nat.le_of_ble_eq_true rfl) (Nat.le_of_ble_eq_true rfl) ?_
  refine lv_astore_n (lv' := [(2, .ref q_1), (1, .int 0), (0, .ref h)]) hx hb dX14_isDanger_11 rfl hl (by decide) rfl (fun ls hl => ?_)
  refine lv_aload_n hx hb dX14_isDanger_12 rfl (lv_at hl 0 rfl) ?_
  have hPc := hP.sub (ws' := [(q_1, .inr (4, [.int 0, .int (-1), .int m5, .ref l5])), (l5, .inr (5, [.int m5, .ref d5, .int 0]))]) [1, 2] rfl
  have hDc := hD.sub (ws' := [(q_1, .inr (4, [.int 0, .int (-1), .int m5, .ref l5])), (l5, .inr (5, [.int m5, .ref d5, .int 0]))]) [1, 2] (by decide) rfl
  have hKc := hK.sub (tys' := []) [] rfl
  have hFc := va_free (wc := [(q_1, .inr (4, [.int 0, .int (-1), .int m5, .ref l5])), (l5, .inr (5, [.int m5, .ref d5, .int 0]))]) hD hS hA [1, 2] rfl
  refine va_callFi (va_runF (As := []) (rest := []) (hK.1 4 _ rfl).2 ⟨hx, hb, hml, hown, hts⟩ (c_itr_hasNext l dC dI E q_1 l5 d5 m5 H.size) (va_cwF 0 hts gX14_isDanger_Jx35411_hasNext_aae02_f70Jx35411 rfl rfl rfl hE.1.2.2.2.2.2.2 (by decide +kernel) ⟨(Nat.le_of_ble_eq_true rfl), (Nat.le_of_ble_eq_true rfl)⟩) ⟨pre_blind, va_recv hKc hPc (ci := 4) (q0 := 0) rfl rfl, pre_call hPc hDc hKc hFc hE hZ hS⟩ rfl rfl hl.1 rfl (lv_room (Nat.le_of_ble_eq_true rfl)) dX14_isDanger_13 ⟨(Nat.le_of_ble_eq_true rfl), (Nat.le_of_ble_eq_true rfl)⟩) hS (fun q _ h => hFc q h) hFc (fun r u t H1 locs1 ht hvm hw hB hz1 hk1 hS => ?_)
  have hw9 : r = 0 := hw
  rw [hw9]
  obtain ⟨hP, hD, hK⟩ := pst_join (wc := [(q_1, .inr (4, [.int 0, .int (-1), .int m5, .ref l5])), (l5, .inr (5, [.int m5, .ref d5, .int 0]))]) (wr := [(h, .inr (20, [.ref l0, .ref l1, .ref l2, .ref l3, .ref l4, .ref l5, .ref l6, .ref l7, .ref l8, .int pn, .int bt, .int wt, .int mi, .int 0]))]) (w1 := [(l5, .inr (5, [.int m5, .ref d5, .int 0]))]) (tr := []) (t1 := []) hP hD hK [1, 2] [0] [] rfl rfl rfl (by decide) (by decide) hk1 hFc ht hvm hB
  generalize H1 = H at hP hS ⊢
  have hP : va_P (dC, dI) vwCl [(h, .inr (20, [.ref l0, .ref l1, .ref l2, .ref l3, .ref l4, .ref l5, .ref l6, .ref l7, .ref l8, .int pn, .int bt, .int wt, .int mi, .int 0])), (l5, .inr (5, [.int m5, .ref d5, .int 0]))] H := hP
  have hD : va_D A [(h, .inr (20, [.ref l0, .ref l1, .ref l2, .ref l3, .ref l4, .ref l5, .ref l6, .ref l7, .ref l8, .int pn, .int bt, .int wt, .int mi, .int 0])), (l5, .inr (5, [.int m5, .ref d5, .int 0]))] := hD
  have hK : va_K (dC, dI) vwCl [] s := hK
  refine W.widen (k := 1) (n := 4) (Nat.le_of_ble_eq_true rfl) (Nat.le_of_ble_eq_true rfl) ?_
  refine lv_if_eq (tgt := 98) hx hb dX14_isDanger_18 (by decide) (fun _ => ?_) (fun c9 => absurd (by decide) c9)
  refine lv_iload_n hx hb dX14_isDanger_98 rfl (lv_at hl 1 rfl) ?_
  have hP9 := hP.sub (ws' := [(h, .inr (20, [.ref l0, .ref l1, .ref l2, .ref l3, .ref l4, .ref l5, .ref l6, .ref l7, .ref l8, .int pn, .int bt, .int wt, .int mi, .int 0])), (l5, .inr (5, [.int m5, .ref d5, .int 0]))]) [0, 1] rfl
  have hD9 := hD.sub (ws' := [(h, .inr (20, [.ref l0, .ref l1, .ref l2, .ref l3, .ref l4, .ref l5, .ref l6, .ref l7, .ref l8, .int pn, .int bt, .int wt, .int mi, .int 0])), (l5, .inr (5, [.int m5, .ref d5, .int 0]))]) [0, 1] (by decide) rfl
  have hK9 := hK.sub (tys' := []) [] rfl
  refine W.widen (k := 1) (n := 4) (Nat.le_of_ble_eq_true rfl) (Nat.le_of_ble_eq_true rfl) ?_
  exact W.zret (v := 0) hx hb hr rfl (fun t ht hW => ⟨⟨0, (), rfl, rfl, pst_of hP9 hD9 hK9 ht hW⟩, hS.F ht⟩) hS.2.2 dX14_isDanger_99

set_option maxHeartbeats 4000000 in
set_option maxRecDepth 100000 in
theorem c_rs_passes (l : Launch) (dC : Nat → ClassId) (dI : Nat → Nat → Nat) (E : Nat → Nat) (h : Nat) (l0 : Nat) (l1 : Nat) (l2 : Nat) (l3 : Nat) (l4 : Nat) (l5 : Nat) (l6 : Nat) (l7 : Nat) (l8 : Nat) (pn : Int32) (bt : Int32) (wt : Int32) (mi : Int32) (m0 : Int32) (m3 : Int32) (m4 : Int32) (m5 : Int32) (m6 : Int32) (m7 : Int32) (d0 : Nat) (d3 : Nat) (d4 : Nat) (d5 : Nat) (d6 : Nat) (d7 : Nat) (sz : Nat) : Met l yX14_passes wsX14_passes ({ frames := 4, cells := 5, slots := 20, locals := 77 }) (va_Pc [.ref h] (pre dC dI E [(h, .inr (20, [.ref l0, .ref l1, .ref l2, .ref l3, .ref l4, .ref l5, .ref l6, .ref l7, .ref l8, .int pn, .int bt, .int wt, .int mi, .int 0])), (l0, .inr (5, [.int m0, .ref d0, .int 0])), (l3, .inr (5, [.int m3, .ref d3, .int 0])), (l4, .inr (5, [.int m4, .ref d4, .int 0])), (l5, .inr (5, [.int m5, .ref d5, .int 0])), (l6, .inr (5, [.int m6, .ref d6, .int 0])), (l7, .inr (5, [.int m7, .ref d7, .int 0]))] [] sz)) (va_Qv (fun _ : Unit => True) (fun _ t => ∃ b2 : Int32, pst dC dI (va_A [(h, .inr (20, [.ref l0, .ref l1, .ref l2, .ref l3, .ref l4, .ref l5, .ref l6, .ref l7, .ref l8, .int pn, .int bt, .int wt, .int mi, .int 0])), (l0, .inr (5, [.int m0, .ref d0, .int 0])), (l3, .inr (5, [.int m3, .ref d3, .int 0])), (l4, .inr (5, [.int m4, .ref d4, .int 0])), (l5, .inr (5, [.int m5, .ref d5, .int 0])), (l6, .inr (5, [.int m6, .ref d6, .int 0])), (l7, .inr (5, [.int m7, .ref d7, .int 0]))] sz) [(h, .inr (20, [.ref l0, .ref l1, .ref l2, .ref l3, .ref l4, .ref l5, .ref l6, .ref l7, .ref l8, .int pn, .int b2, .int wt, .int (mi + 1), .int 0])), (l0, .inr (5, [.int m0, .ref d0, .int 0])), (l3, .inr (5, [.int m3, .ref d3, .int 0])), (l4, .inr (5, [.int m4, .ref d4, .int 0])), (l5, .inr (5, [.int m5, .ref d5, .int 0])), (l6, .inr (5, [.int m6, .ref d6, .int 0])), (l7, .inr (5, [.int m7, .ref d7, .int 0]))] [] t) (va_A [(h, .inr (20, [.ref l0, .ref l1, .ref l2, .ref l3, .ref l4, .ref l5, .ref l6, .ref l7, .ref l8, .int pn, .int bt, .int wt, .int mi, .int 0])), (l0, .inr (5, [.int m0, .ref d0, .int 0])), (l3, .inr (5, [.int m3, .ref d3, .int 0])), (l4, .inr (5, [.int m4, .ref d4, .int 0])), (l5, .inr (5, [.int m5, .ref d5, .int 0])), (l6, .inr (5, [.int m6, .ref d6, .int 0])), (l7, .inr (5, [.int m7, .ref d7, .int 0]))] sz)) 5 20 (va_A [(h, .inr (20, [.ref l0, .ref l1, .ref l2, .ref l3, .ref l4, .ref l5, .ref l6, .ref l7, .ref l8, .int pn, .int bt, .int wt, .int mi, .int 0])), (l0, .inr (5, [.int m0, .ref d0, .int 0])), (l3, .inr (5, [.int m3, .ref d3, .int 0])), (l4, .inr (5, [.int m4, .ref d4, .int 0])), (l5, .inr (5, [.int m5, .ref d5, .int 0])), (l6, .inr (5, [.int m6, .ref d6, .int 0])), (l7, .inr (5, [.int m7, .ref d7, .int 0]))] sz) := by
  refine Met.ofW (cc := cX14_passes) (maxL := 3) (ret := none) (by decide) rfl ?_
  intro p e s m args below meth c s₁ B hml hv
  obtain ⟨rfl, hsz, hP, hK, hD0, hE, hZ0⟩ := hv
  have hx := B.exec
  have hb := B.bytes
  have hr := B.returns
  have hts := atoms_spec (ws := wsX14_passes) B.pre
  have hown : s.vm.findClass RX14 = some m.cls := findClass_of_methodNamed B.named
  have hlocks := B.notSynchronized
  subst hsz
  have hD := hD0.self (sz := s.heap.size)
  generalize hAe : va_A [(h, .inr (20, [.ref l0, .ref l1, .ref l2, .ref l3, .ref l4, .ref l5, .ref l6, .ref l7, .ref l8, .int pn, .int bt, .int wt, .int mi, .int 0])), (l0, .inr (5, [.int m0, .ref d0, .int 0])), (l3, .inr (5, [.int m3, .ref d3, .int 0])), (l4, .inr (5, [.int m4, .ref d4, .int 0])), (l5, .inr (5, [.int m5, .ref d5, .int 0])), (l6, .inr (5, [.int m6, .ref d6, .int 0])), (l7, .inr (5, [.int m7, .ref d7, .int 0]))] s.heap.size = A at hD hZ0 ⊢
  have hZ := hZ0
  have hA : ∀ q : Nat, s.heap.size ≤ q → A q := fun q h => by rw [← hAe]; exact Or.inr h
  have hS : va_S A s.heap s.heap [] := va_S.rf
  have hP : va_P (dC, dI) vwCl [(h, .inr (20, [.ref l0, .ref l1, .ref l2, .ref l3, .ref l4, .ref l5, .ref l6, .ref l7, .ref l8, .int pn, .int bt, .int wt, .int mi, .int 0])), (l0, .inr (5, [.int m0, .ref d0, .int 0])), (l3, .inr (5, [.int m3, .ref d3, .int 0])), (l4, .inr (5, [.int m4, .ref d4, .int 0])), (l5, .inr (5, [.int m5, .ref d5, .int 0])), (l6, .inr (5, [.int m6, .ref d6, .int 0])), (l7, .inr (5, [.int m7, .ref d7, .int 0]))] s.heap := hP
  have hl := lv_entry ([.ref h]) (n := 3) (Nat.le_of_ble_eq_true rfl)
  rw [lg_entry_eq]
  generalize (lg_sl ([.ref h]) ++ List.replicate (3 - (lg_sl ([.ref h])).length) Slot.unset).toArray = ls at hl ⊢
  have hl : lv_has ls 3 [(0, .ref h)] := hl
  refine lv_aload_n hx hb dX14_passes_0 rfl (lv_at hl 0 rfl) ?_
  have hPc := hP.sub (ws' := [(h, .inr (20, [.ref l0, .ref l1, .ref l2, .ref l3, .ref l4, .ref l5, .ref l6, .ref l7, .ref l8, .int pn, .int bt, .int wt, .int mi, .int 0])), (l7, .inr (5, [.int m7, .ref d7, .int 0]))]) [0, 6] rfl
  have hDc := hD.sub (ws' := [(h, .inr (20, [.ref l0, .ref l1, .ref l2, .ref l3, .ref l4, .ref l5, .ref l6, .ref l7, .ref l8, .int pn, .int bt, .int wt, .int mi, .int 0])), (l7, .inr (5, [.int m7, .ref d7, .int 0]))]) [0, 6] (by decide) rfl
  have hKc := hK.sub (tys' := []) [] rfl
  have hFc := va_free (wc := [(h, .inr (20, [.ref l0, .ref l1, .ref l2, .ref l3, .ref l4, .ref l5, .ref l6, .ref l7, .ref l8, .int pn, .int bt, .int wt, .int mi, .int 0])), (l7, .inr (5, [.int m7, .ref d7, .int 0]))]) hD hS hA [0, 6] rfl
  refine va_callv (va_runV (As := []) (rest := []) ⟨hx, hb, hml, hown, hts⟩ (c_rs_commands l dC dI E h l0 l1 l2 l3 l4 l5 l6 l7 l8 pn bt wt mi m7 d7 s.heap.size) (cwV 0 hts gX14_passes_X14_commands rfl rfl rfl (by decide +kernel) ⟨(Nat.le_of_ble_eq_true rfl), (Nat.le_of_ble_eq_true rfl)⟩) ⟨pre_blind, va_recv hKc hPc (ci := 20) (q0 := 0) rfl rfl, pre_call hPc hDc hKc hFc hE hZ hS⟩ rfl rfl hl.1 rfl (lv_room (Nat.le_of_ble_eq_true rfl)) dX14_passes_1 ⟨(Nat.le_of_ble_eq_true rfl), (Nat.le_of_ble_eq_true rfl)⟩) hS (fun q _ h => hFc q h) hFc (fun u t H1 locs1 ht hvm hw hB hz1 hk1 hS => ?_)
  obtain ⟨hP, hD, hK⟩ := pst_join (wc := [(h, .inr (20, [.ref l0, .ref l1, .ref l2, .ref l3, .ref l4, .ref l5, .ref l6, .ref l7, .ref l8, .int pn, .int bt, .int wt, .int mi, .int 0])), (l7, .inr (5, [.int m7, .ref d7, .int 0]))]) (wr := [(l0, .inr (5, [.int m0, .ref d0, .int 0])), (l3, .inr (5, [.int m3, .ref d3, .int 0])), (l4, .inr (5, [.int m4, .ref d4, .int 0])), (l5, .inr (5, [.int m5, .ref d5, .int 0])), (l6, .inr (5, [.int m6, .ref d6, .int 0]))]) (w1 := [(h, .inr (20, [.ref l0, .ref l1, .ref l2, .ref l3, .ref l4, .ref l5, .ref l6, .ref l7, .ref l8, .int pn, .int bt, .int wt, .int mi, .int 0])), (l7, .inr (5, [.int m7, .ref d7, .int 0]))]) (tr := []) (t1 := []) hP hD hK [0, 6] [1, 2, 3, 4, 5] [] rfl rfl rfl (by decide) (by decide) hk1 hFc ht hvm hB
  generalize H1 = H at hP hS ⊢
  have hP : va_P (dC, dI) vwCl [(l0, .inr (5, [.int m0, .ref d0, .int 0])), (l3, .inr (5, [.int m3, .ref d3, .int 0])), (l4, .inr (5, [.int m4, .ref d4, .int 0])), (l5, .inr (5, [.int m5, .ref d5, .int 0])), (l6, .inr (5, [.int m6, .ref d6, .int 0])), (h, .inr (20, [.ref l0, .ref l1, .ref l2, .ref l3, .ref l4, .ref l5, .ref l6, .ref l7, .ref l8, .int pn, .int bt, .int wt, .int mi, .int 0])), (l7, .inr (5, [.int m7, .ref d7, .int 0]))] H := hP
  have hD : va_D A [(l0, .inr (5, [.int m0, .ref d0, .int 0])), (l3, .inr (5, [.int m3, .ref d3, .int 0])), (l4, .inr (5, [.int m4, .ref d4, .int 0])), (l5, .inr (5, [.int m5, .ref d5, .int 0])), (l6, .inr (5, [.int m6, .ref d6, .int 0])), (h, .inr (20, [.ref l0, .ref l1, .ref l2, .ref l3, .ref l4, .ref l5, .ref l6, .ref l7, .ref l8, .int pn, .int bt, .int wt, .int mi, .int 0])), (l7, .inr (5, [.int m7, .ref d7, .int 0]))] := hD
  have hK : va_K (dC, dI) vwCl [] s := hK
  refine W.widen (k := 0) (n := 0) (Nat.le_of_ble_eq_true rfl) (Nat.le_of_ble_eq_true rfl) ?_
  refine lv_aload_n hx hb dX14_passes_4 rfl (lv_at hl 0 rfl) ?_
  have hPc := hP.sub (ws' := [(h, .inr (20, [.ref l0, .ref l1, .ref l2, .ref l3, .ref l4, .ref l5, .ref l6, .ref l7, .ref l8, .int pn, .int bt, .int wt, .int mi, .int 0])), (l6, .inr (5, [.int m6, .ref d6, .int 0]))]) [5, 4] rfl
  have hDc := hD.sub (ws' := [(h, .inr (20, [.ref l0, .ref l1, .ref l2, .ref l3, .ref l4, .ref l5, .ref l6, .ref l7, .ref l8, .int pn, .int bt, .int wt, .int mi, .int 0])), (l6, .inr (5, [.int m6, .ref d6, .int 0]))]) [5, 4] (by decide) rfl
  have hKc := hK.sub (tys' := []) [] rfl
  have hFc := va_free (wc := [(h, .inr (20, [.ref l0, .ref l1, .ref l2, .ref l3, .ref l4, .ref l5, .ref l6, .ref l7, .ref l8, .int pn, .int bt, .int wt, .int mi, .int 0])), (l6, .inr (5, [.int m6, .ref d6, .int 0]))]) hD hS hA [5, 4] rfl
  refine va_callv (va_runV (As := []) (rest := []) ⟨hx, hb, hml, hown, hts⟩ (c_rs_ships l dC dI E h l0 l1 l2 l3 l4 l5 l6 l7 l8 pn bt wt mi m6 d6 H.size) (cwV 0 hts gX14_passes_X14_ships rfl rfl rfl (by decide +kernel) ⟨(Nat.le_of_ble_eq_true rfl), (Nat.le_of_ble_eq_true rfl)⟩) ⟨pre_blind, va_recv hKc hPc (ci := 20) (q0 := 0) rfl rfl, pre_call hPc hDc hKc hFc hE hZ hS⟩ rfl rfl hl.1 rfl (lv_room (Nat.le_of_ble_eq_true rfl)) dX14_passes_5 ⟨(Nat.le_of_ble_eq_true rfl), (Nat.le_of_ble_eq_true rfl)⟩) hS (fun q _ h => hFc q h) hFc (fun u t H1 locs1 ht hvm hw hB hz1 hk1 hS => ?_)
  obtain ⟨hP, hD, hK⟩ := pst_join (wc := [(h, .inr (20, [.ref l0, .ref l1, .ref l2, .ref l3, .ref l4, .ref l5, .ref l6, .ref l7, .ref l8, .int pn, .int bt, .int wt, .int mi, .int 0])), (l6, .inr (5, [.int m6, .ref d6, .int 0]))]) (wr := [(l0, .inr (5, [.int m0, .ref d0, .int 0])), (l3, .inr (5, [.int m3, .ref d3, .int 0])), (l4, .inr (5, [.int m4, .ref d4, .int 0])), (l5, .inr (5, [.int m5, .ref d5, .int 0])), (l7, .inr (5, [.int m7, .ref d7, .int 0]))]) (w1 := [(h, .inr (20, [.ref l0, .ref l1, .ref l2, .ref l3, .ref l4, .ref l5, .ref l6, .ref l7, .ref l8, .int pn, .int bt, .int wt, .int mi, .int 0])), (l6, .inr (5, [.int m6, .ref d6, .int 0]))]) (tr := []) (t1 := []) hP hD hK [5, 4] [0, 1, 2, 3, 6] [] rfl rfl rfl (by decide) (by decide) hk1 hFc ht hvm hB
  generalize H1 = H at hP hS ⊢
  have hP : va_P (dC, dI) vwCl [(l0, .inr (5, [.int m0, .ref d0, .int 0])), (l3, .inr (5, [.int m3, .ref d3, .int 0])), (l4, .inr (5, [.int m4, .ref d4, .int 0])), (l5, .inr (5, [.int m5, .ref d5, .int 0])), (l7, .inr (5, [.int m7, .ref d7, .int 0])), (h, .inr (20, [.ref l0, .ref l1, .ref l2, .ref l3, .ref l4, .ref l5, .ref l6, .ref l7, .ref l8, .int pn, .int bt, .int wt, .int mi, .int 0])), (l6, .inr (5, [.int m6, .ref d6, .int 0]))] H := hP
  have hD : va_D A [(l0, .inr (5, [.int m0, .ref d0, .int 0])), (l3, .inr (5, [.int m3, .ref d3, .int 0])), (l4, .inr (5, [.int m4, .ref d4, .int 0])), (l5, .inr (5, [.int m5, .ref d5, .int 0])), (l7, .inr (5, [.int m7, .ref d7, .int 0])), (h, .inr (20, [.ref l0, .ref l1, .ref l2, .ref l3, .ref l4, .ref l5, .ref l6, .ref l7, .ref l8, .int pn, .int bt, .int wt, .int mi, .int 0])), (l6, .inr (5, [.int m6, .ref d6, .int 0]))] := hD
  have hK : va_K (dC, dI) vwCl [] s := hK
  refine W.widen (k := 1) (n := 4) (Nat.le_of_ble_eq_true rfl) (Nat.le_of_ble_eq_true rfl) ?_
  refine lv_aload_n hx hb dX14_passes_8 rfl (lv_at hl 0 rfl) ?_
  have hPc := hP.sub (ws' := [(h, .inr (20, [.ref l0, .ref l1, .ref l2, .ref l3, .ref l4, .ref l5, .ref l6, .ref l7, .ref l8, .int pn, .int bt, .int wt, .int mi, .int 0])), (l4, .inr (5, [.int m4, .ref d4, .int 0]))]) [5, 2] rfl
  have hDc := hD.sub (ws' := [(h, .inr (20, [.ref l0, .ref l1, .ref l2, .ref l3, .ref l4, .ref l5, .ref l6, .ref l7, .ref l8, .int pn, .int bt, .int wt, .int mi, .int 0])), (l4, .inr (5, [.int m4, .ref d4, .int 0]))]) [5, 2] (by decide) rfl
  have hKc := hK.sub (tys' := []) [] rfl
  have hFc := va_free (wc := [(h, .inr (20, [.ref l0, .ref l1, .ref l2, .ref l3, .ref l4, .ref l5, .ref l6, .ref l7, .ref l8, .int pn, .int bt, .int wt, .int mi, .int 0])), (l4, .inr (5, [.int m4, .ref d4, .int 0]))]) hD hS hA [5, 2] rfl
  refine va_callv (va_runV (As := []) (rest := []) ⟨hx, hb, hml, hown, hts⟩ (c_rs_devices l dC dI E h l0 l1 l2 l3 l4 l5 l6 l7 l8 pn bt wt mi m4 d4 H.size) (cwV 0 hts gX14_passes_X14_devices rfl rfl rfl (by decide +kernel) ⟨(Nat.le_of_ble_eq_true rfl), (Nat.le_of_ble_eq_true rfl)⟩) ⟨pre_blind, va_recv hKc hPc (ci := 20) (q0 := 0) rfl rfl, pre_call hPc hDc hKc hFc hE hZ hS⟩ rfl rfl hl.1 rfl (lv_room (Nat.le_of_ble_eq_true rfl)) dX14_passes_9 ⟨(Nat.le_of_ble_eq_true rfl), (Nat.le_of_ble_eq_true rfl)⟩) hS (fun q _ h => hFc q h) hFc (fun u t H1 locs1 ht hvm hw hB hz1 hk1 hS => ?_)
  obtain ⟨b2_3, hB⟩ := hB
  obtain ⟨hP, hD, hK⟩ := pst_join (wc := [(h, .inr (20, [.ref l0, .ref l1, .ref l2, .ref l3, .ref l4, .ref l5, .ref l6, .ref l7, .ref l8, .int pn, .int bt, .int wt, .int mi, .int 0])), (l4, .inr (5, [.int m4, .ref d4, .int 0]))]) (wr := [(l0, .inr (5, [.int m0, .ref d0, .int 0])), (l3, .inr (5, [.int m3, .ref d3, .int 0])), (l5, .inr (5, [.int m5, .ref d5, .int 0])), (l7, .inr (5, [.int m7, .ref d7, .int 0])), (l6, .inr (5, [.int m6, .ref d6, .int 0]))]) (w1 := [(h, .inr (20, [.ref l0, .ref l1, .ref l2, .ref l3, .ref l4, .ref l5, .ref l6, .ref l7, .ref l8, .int pn, .int b2_3, .int wt, .int mi, .int 0])), (l4, .inr (5, [.int m4, .ref d4, .int 0]))]) (tr := []) (t1 := []) hP hD hK [5, 2] [0, 1, 3, 4, 6] [] rfl rfl rfl (by decide) (by decide) hk1 hFc ht hvm hB
  generalize H1 = H at hP hS ⊢
  have hP : va_P (dC, dI) vwCl [(l0, .inr (5, [.int m0, .ref d0, .int 0])), (l3, .inr (5, [.int m3, .ref d3, .int 0])), (l5, .inr (5, [.int m5, .ref d5, .int 0])), (l7, .inr (5, [.int m7, .ref d7, .int 0])), (l6, .inr (5, [.int m6, .ref d6, .int 0])), (h, .inr (20, [.ref l0, .ref l1, .ref l2, .ref l3, .ref l4, .ref l5, .ref l6, .ref l7, .ref l8, .int pn, .int b2_3, .int wt, .int mi, .int 0])), (l4, .inr (5, [.int m4, .ref d4, .int 0]))] H := hP
  have hD : va_D A [(l0, .inr (5, [.int m0, .ref d0, .int 0])), (l3, .inr (5, [.int m3, .ref d3, .int 0])), (l5, .inr (5, [.int m5, .ref d5, .int 0])), (l7, .inr (5, [.int m7, .ref d7, .int 0])), (l6, .inr (5, [.int m6, .ref d6, .int 0])), (h, .inr (20, [.ref l0, .ref l1, .ref l2, .ref l3, .ref l4, .ref l5, .ref l6, .ref l7, .ref l8, .int pn, .int b2_3, .int wt, .int mi, .int 0])), (l4, .inr (5, [.int m4, .ref d4, .int 0]))] := hD
  have hK : va_K (dC, dI) vwCl [] s := hK
  refine W.widen (k := 2) (n := 8) (Nat.le_of_ble_eq_true rfl) (Nat.le_of_ble_eq_true rfl) ?_
  refine lv_iconst (v := 0) hx hb dX14_passes_12 (by decide) ?_
  refine lv_istore_n (lv' := [(1, .int 0), (0, .ref h)]) hx hb dX14_passes_13 rfl hl (by decide) rfl (fun ls hl => ?_)
  refine lv_iload_n hx hb dX14_passes_14 rfl (lv_at hl 0 rfl) ?_
  refine lv_aload_n hx hb dX14_passes_15 rfl (lv_at hl 1 rfl) ?_
  refine va_get (D := (dC, dI)) (ci := 20) (v := .ref l0) (C := RX14) (T := TX14) (N := 14) hx hb hts (by decide +kernel) hown hK hP 5 rfl rfl 0 (by decide) (hts (.fieldLink RX14 12 "OrbitdockModel$Station" "oxygen" "Ljava/util/List;") (by decide +kernel)) (fun _ h9 => h9) rfl dX14_passes_16 ?_
  have hPc := hP.sub (ws' := [(l0, .inr (5, [.int m0, .ref d0, .int 0]))]) [0] rfl
  have hDc := hD.sub (ws' := [(l0, .inr (5, [.int m0, .ref d0, .int 0]))]) [0] (by decide) rfl
  have hKc := hK.sub (tys' := []) [] rfl
  have hFc := va_free (wc := [(l0, .inr (5, [.int m0, .ref d0, .int 0]))]) hD hS hA [0] rfl
  refine va_callFi (va_runF (As := []) (rest := [.int 0]) (hK.1 5 _ rfl).2 ⟨hx, hb, hml, hown, hts⟩ (c_al_size l dC dI E l0 d0 m0 0 H.size) (va_cwF 0 hts gX14_passes_Jx4a65c_size_8abf5_f162Jx4a65c rfl rfl rfl hE.1.1 (by decide +kernel) ⟨(Nat.le_of_ble_eq_true rfl), (Nat.le_of_ble_eq_true rfl)⟩) ⟨pre_blind, va_recv hKc hPc (ci := 5) (q0 := 0) rfl rfl, pre_call hPc hDc hKc hFc hE hZ hS⟩ rfl rfl hl.1 rfl (lv_room (Nat.le_of_ble_eq_true rfl)) dX14_passes_19 ⟨(Nat.le_of_ble_eq_true rfl), (Nat.le_of_ble_eq_true rfl)⟩) hS (fun q _ h => hFc q h) hFc (fun r u t H1 locs1 ht hvm hw hB hz1 hk1 hS => ?_)
  have hw9 : r = 0 := hw
  rw [hw9]
  obtain ⟨hP, hD, hK⟩ := pst_join (wc := [(l0, .inr (5, [.int m0, .ref d0, .int 0]))]) (wr := [(l3, .inr (5, [.int m3, .ref d3, .int 0])), (l5, .inr (5, [.int m5, .ref d5, .int 0])), (l7, .inr (5, [.int m7, .ref d7, .int 0])), (l6, .inr (5, [.int m6, .ref d6, .int 0])), (h, .inr (20, [.ref l0, .ref l1, .ref l2, .ref l3, .ref l4, .ref l5, .ref l6, .ref l7, .ref l8, .int pn, .int b2_3, .int wt, .int mi, .int 0])), (l4, .inr (5, [.int m4, .ref d4, .int 0]))]) (w1 := [(l0, .inr (5, [.int m0, .ref d0, .int 0]))]) (tr := []) (t1 := []) hP hD hK [0] [1, 2, 3, 4, 5, 6] [] rfl rfl rfl (by decide) (by decide) hk1 hFc ht hvm hB
  generalize H1 = H at hP hS ⊢
  have hP : va_P (dC, dI) vwCl [(l3, .inr (5, [.int m3, .ref d3, .int 0])), (l5, .inr (5, [.int m5, .ref d5, .int 0])), (l7, .inr (5, [.int m7, .ref d7, .int 0])), (l6, .inr (5, [.int m6, .ref d6, .int 0])), (h, .inr (20, [.ref l0, .ref l1, .ref l2, .ref l3, .ref l4, .ref l5, .ref l6, .ref l7, .ref l8, .int pn, .int b2_3, .int wt, .int mi, .int 0])), (l4, .inr (5, [.int m4, .ref d4, .int 0])), (l0, .inr (5, [.int m0, .ref d0, .int 0]))] H := hP
  have hD : va_D A [(l3, .inr (5, [.int m3, .ref d3, .int 0])), (l5, .inr (5, [.int m5, .ref d5, .int 0])), (l7, .inr (5, [.int m7, .ref d7, .int 0])), (l6, .inr (5, [.int m6, .ref d6, .int 0])), (h, .inr (20, [.ref l0, .ref l1, .ref l2, .ref l3, .ref l4, .ref l5, .ref l6, .ref l7, .ref l8, .int pn, .int b2_3, .int wt, .int mi, .int 0])), (l4, .inr (5, [.int m4, .ref d4, .int 0])), (l0, .inr (5, [.int m0, .ref d0, .int 0]))] := hD
  have hK : va_K (dC, dI) vwCl [] s := hK
  refine W.widen (k := 2) (n := 8) (Nat.le_of_ble_eq_true rfl) (Nat.le_of_ble_eq_true rfl) ?_
  refine lv_icmp_ge (tgt := 78) hx hb dX14_passes_24 (by decide) (fun _ => ?_) (fun c9 => absurd (by decide) c9)
  refine lv_aload_n hx hb dX14_passes_78 rfl (lv_at hl 1 rfl) ?_
  refine va_get (D := (dC, dI)) (ci := 20) (v := .ref l3) (C := RX14) (T := TX14) (N := 14) hx hb hts (by decide +kernel) hown hK hP 4 rfl rfl 3 (by decide) (hts (.fieldLink RX14 24 "OrbitdockModel$Station" "hatches" "Ljava/util/List;") (by decide +kernel)) (fun _ h9 => h9) rfl dX14_passes_79 ?_
  have hPc := hP.sub (ws' := [(l3, .inr (5, [.int m3, .ref d3, .int 0]))]) [0] rfl
  have hDc := hD.sub (ws' := [(l3, .inr (5, [.int m3, .ref d3, .int 0]))]) [0] (by decide) rfl
  have hKc := hK.sub (tys' := []) [] rfl
  have hFc := va_free (wc := [(l3, .inr (5, [.int m3, .ref d3, .int 0]))]) hD hS hA [0] rfl
  refine va_callFr (va_runF (As := []) (rest := []) (hK.1 5 _ rfl).2 ⟨hx, hb, hml, hown, hts⟩ (c_al_iterator l dC dI E l3 d3 m3 0 H.size) (va_cwF 0 hts gX14_passes_Jx4a65c_iterator_32c93_f66Jx4a65c rfl rfl rfl hE.1.2.2.1 (by decide +kernel) ⟨(Nat.le_of_ble_eq_true rfl), (Nat.le_of_ble_eq_true rfl)⟩) ⟨pre_blind, va_recv hKc hPc (ci := 5) (q0 := 0) rfl rfl, pre_call hPc hDc hKc hFc hE hZ hS⟩ rfl rfl hl.1 rfl (lv_room (Nat.le_of_ble_eq_true rfl)) dX14_passes_82 ⟨(Nat.le_of_ble_eq_true rfl), (Nat.le_of_ble_eq_true rfl)⟩) hS (fun q _ h => hFc q h) hFc (fun u q_7 t H1 locs1 ht hvm hw hB hz1 hk1 hS => ?_)
  try dsimp only at hB
  obtain ⟨hP, hD, hK⟩ := pst_join (wc := [(l3, .inr (5, [.int m3, .ref d3, .int 0]))]) (wr := [(l5, .inr (5, [.int m5, .ref d5, .int 0])), (l7, .inr (5, [.int m7, .ref d7, .int 0])), (l6, .inr (5, [.int m6, .ref d6, .int 0])), (h, .inr (20, [.ref l0, .ref l1, .ref l2, .ref l3, .ref l4, .ref l5, .ref l6, .ref l7, .ref l8, .int pn, .int b2_3, .int wt, .int mi, .int 0])), (l4, .inr (5, [.int m4, .ref d4, .int 0])), (l0, .inr (5, [.int m0, .ref d0, .int 0]))]) (w1 := [(q_7, .inr (4, [.int 0, .int (-1), .int m3, .ref l3])), (l3, .inr (5, [.int m3, .ref d3, .int 0]))]) (tr := []) (t1 := []) hP hD hK [0] [1, 2, 3, 4, 5, 6] [] rfl rfl rfl (by decide) (by decide) hk1 hFc ht hvm hB
  generalize H1 = H at hP hS ⊢
  have hP : va_P (dC, dI) vwCl [(l5, .inr (5, [.int m5, .ref d5, .int 0])), (l7, .inr (5, [.int m7, .ref d7, .int 0])), (l6, .inr (5, [.int m6, .ref d6, .int 0])), (h, .inr (20, [.ref l0, .ref l1, .ref l2, .ref l3, .ref l4, .ref l5, .ref l6, .ref l7, .ref l8, .int pn, .int b2_3, .int wt, .int mi, .int 0])), (l4, .inr (5, [.int m4, .ref d4, .int 0])), (l0, .inr (5, [.int m0, .ref d0, .int 0])), (q_7, .inr (4, [.int 0, .int (-1), .int m3, .ref l3])), (l3, .inr (5, [.int m3, .ref d3, .int 0]))] H := hP
  have hD : va_D A [(l5, .inr (5, [.int m5, .ref d5, .int 0])), (l7, .inr (5, [.int m7, .ref d7, .int 0])), (l6, .inr (5, [.int m6, .ref d6, .int 0])), (h, .inr (20, [.ref l0, .ref l1, .ref l2, .ref l3, .ref l4, .ref l5, .ref l6, .ref l7, .ref l8, .int pn, .int b2_3, .int wt, .int mi, .int 0])), (l4, .inr (5, [.int m4, .ref d4, .int 0])), (l0, .inr (5, [.int m0, .ref d0, .int 0])), (q_7, .inr (4, [.int 0, .int (-1), .int m3, .ref l3])), (l3, .inr (5, [.int m3, .ref d3, .int 0]))] := hD
  have hK : va_K (dC, dI) vwCl [] s := hK
  refine W.widen (k := 3) (n := 12) (Nat.le_of_ble_eq_true rfl) (Nat.le_of_ble_eq_true rfl) ?_
  refine lv_astore_n (lv' := [(1, .ref q_7), (0, .ref h)]) hx hb dX14_passes_87 rfl hl (by decide) rfl (fun ls hl => ?_)
  refine lv_aload_n hx hb dX14_passes_88 rfl (lv_at hl 0 rfl) ?_
  have hPc := hP.sub (ws' := [(q_7, .inr (4, [.int 0, .int (-1), .int m3, .ref l3])), (l3, .inr (5, [.int m3, .ref d3, .int 0]))]) [6, 7] rfl
  have hDc := hD.sub (ws' := [(q_7, .inr (4, [.int 0, .int (-1), .int m3, .ref l3])), (l3, .inr (5, [.int m3, .ref d3, .int 0]))]) [6, 7] (by decide) rfl
  have hKc := hK.sub (tys' := []) [] rfl
  have hFc := va_free (wc := [(q_7, .inr (4, [.int 0, .int (-1), .int m3, .ref l3])), (l3, .inr (5, [.int m3, .ref d3, .int 0]))]) hD hS hA [6, 7] rfl
  refine va_callFi (va_runF (As := []) (rest := []) (hK.1 4 _ rfl).2 ⟨hx, hb, hml, hown, hts⟩ (c_itr_hasNext l dC dI E q_7 l3 d3 m3 H.size) (va_cwF 0 hts gX14_passes_Jx35411_hasNext_aae02_f70Jx35411 rfl rfl rfl hE.1.2.2.2.2.2.2 (by decide +kernel) ⟨(Nat.le_of_ble_eq_true rfl), (Nat.le_of_ble_eq_true rfl)⟩) ⟨pre_blind, va_recv hKc hPc (ci := 4) (q0 := 0) rfl rfl, pre_call hPc hDc hKc hFc hE hZ hS⟩ rfl rfl hl.1 rfl (lv_room (Nat.le_of_ble_eq_true rfl)) dX14_passes_89 ⟨(Nat.le_of_ble_eq_true rfl), (Nat.le_of_ble_eq_true rfl)⟩) hS (fun q _ h => hFc q h) hFc (fun r u t H1 locs1 ht hvm hw hB hz1 hk1 hS => ?_)
  have hw9 : r = 0 := hw
  rw [hw9]
  obtain ⟨hP, hD, hK⟩ := pst_join (wc := [(q_7, .inr (4, [.int 0, .int (-1), .int m3, .ref l3])), (l3, .inr (5, [.int m3, .ref d3, .int 0]))]) (wr := [(l5, .inr (5, [.int m5, .ref d5, .int 0])), (l7, .inr (5, [.int m7, .ref d7, .int 0])), (l6, .inr (5, [.int m6, .ref d6, .int 0])), (h, .inr (20, [.ref l0, .ref l1, .ref l2, .ref l3, .ref l4, .ref l5, .ref l6, .ref l7, .ref l8, .int pn, .int b2_3, .int wt, .int mi, .int 0])), (l4, .inr (5, [.int m4, .ref d4, .int 0])), (l0, .inr (5, [.int m0, .ref d0, .int 0]))]) (w1 := [(l3, .inr (5, [.int m3, .ref d3, .int 0]))]) (tr := []) (t1 := []) hP hD hK [6, 7] [0, 1, 2, 3, 4, 5] [] rfl rfl rfl (by decide) (by decide) hk1 hFc ht hvm hB
  generalize H1 = H at hP hS ⊢
  have hP : va_P (dC, dI) vwCl [(l5, .inr (5, [.int m5, .ref d5, .int 0])), (l7, .inr (5, [.int m7, .ref d7, .int 0])), (l6, .inr (5, [.int m6, .ref d6, .int 0])), (h, .inr (20, [.ref l0, .ref l1, .ref l2, .ref l3, .ref l4, .ref l5, .ref l6, .ref l7, .ref l8, .int pn, .int b2_3, .int wt, .int mi, .int 0])), (l4, .inr (5, [.int m4, .ref d4, .int 0])), (l0, .inr (5, [.int m0, .ref d0, .int 0])), (l3, .inr (5, [.int m3, .ref d3, .int 0]))] H := hP
  have hD : va_D A [(l5, .inr (5, [.int m5, .ref d5, .int 0])), (l7, .inr (5, [.int m7, .ref d7, .int 0])), (l6, .inr (5, [.int m6, .ref d6, .int 0])), (h, .inr (20, [.ref l0, .ref l1, .ref l2, .ref l3, .ref l4, .ref l5, .ref l6, .ref l7, .ref l8, .int pn, .int b2_3, .int wt, .int mi, .int 0])), (l4, .inr (5, [.int m4, .ref d4, .int 0])), (l0, .inr (5, [.int m0, .ref d0, .int 0])), (l3, .inr (5, [.int m3, .ref d3, .int 0]))] := hD
  have hK : va_K (dC, dI) vwCl [] s := hK
  refine W.widen (k := 3) (n := 12) (Nat.le_of_ble_eq_true rfl) (Nat.le_of_ble_eq_true rfl) ?_
  refine lv_if_eq (tgt := 142) hx hb dX14_passes_94 (by decide) (fun _ => ?_) (fun c9 => absurd (by decide) c9)
  refine lv_aload_n hx hb dX14_passes_142 rfl (lv_at hl 1 rfl) ?_
  refine va_get (D := (dC, dI)) (ci := 20) (v := .ref l5) (C := RX14) (T := TX14) (N := 14) hx hb hts (by decide +kernel) hown hK hP 3 rfl rfl 5 (by decide) (hts (.fieldLink RX14 30 "OrbitdockModel$Station" "people" "Ljava/util/List;") (by decide +kernel)) (fun _ h9 => h9) rfl dX14_passes_143 ?_
  have hPc := hP.sub (ws' := [(l5, .inr (5, [.int m5, .ref d5, .int 0]))]) [0] rfl
  have hDc := hD.sub (ws' := [(l5, .inr (5, [.int m5, .ref d5, .int 0]))]) [0] (by decide) rfl
  have hKc := hK.sub (tys' := []) [] rfl
  have hFc := va_free (wc := [(l5, .inr (5, [.int m5, .ref d5, .int 0]))]) hD hS hA [0] rfl
  refine va_callFr (va_runF (As := []) (rest := []) (hK.1 5 _ rfl).2 ⟨hx, hb, hml, hown, hts⟩ (c_al_iterator l dC dI E l5 d5 m5 0 H.size) (va_cwF 0 hts gX14_passes_Jx4a65c_iterator_32c93_f66Jx4a65c rfl rfl rfl hE.1.2.2.1 (by decide +kernel) ⟨(Nat.le_of_ble_eq_true rfl), (Nat.le_of_ble_eq_true rfl)⟩) ⟨pre_blind, va_recv hKc hPc (ci := 5) (q0 := 0) rfl rfl, pre_call hPc hDc hKc hFc hE hZ hS⟩ rfl rfl hl.1 rfl (lv_room (Nat.le_of_ble_eq_true rfl)) dX14_passes_146 ⟨(Nat.le_of_ble_eq_true rfl), (Nat.le_of_ble_eq_true rfl)⟩) hS (fun q _ h => hFc q h) hFc (fun u q_11 t H1 locs1 ht hvm hw hB hz1 hk1 hS => ?_)
  try dsimp only at hB
  obtain ⟨hP, hD, hK⟩ := pst_join (wc := [(l5, .inr (5, [.int m5, .ref d5, .int 0]))]) (wr := [(l7, .inr (5, [.int m7, .ref d7, .int 0])), (l6, .inr (5, [.int m6, .ref d6, .int 0])), (h, .inr (20, [.ref l0, .ref l1, .ref l2, .ref l3, .ref l4, .ref l5, .ref l6, .ref l7, .ref l8, .int pn, .int b2_3, .int wt, .int mi, .int 0])), (l4, .inr (5, [.int m4, .ref d4, .int 0])), (l0, .inr (5, [.int m0, .ref d0, .int 0])), (l3, .inr (5, [.int m3, .ref d3, .int 0]))]) (w1 := [(q_11, .inr (4, [.int 0, .int (-1), .int m5, .ref l5])), (l5, .inr (5, [.int m5, .ref d5, .int 0]))]) (tr := []) (t1 := []) hP hD hK [0] [1, 2, 3, 4, 5, 6] [] rfl rfl rfl (by decide) (by decide) hk1 hFc ht hvm hB
  generalize H1 = H at hP hS ⊢
  have hP : va_P (dC, dI) vwCl [(l7, .inr (5, [.int m7, .ref d7, .int 0])), (l6, .inr (5, [.int m6, .ref d6, .int 0])), (h, .inr (20, [.ref l0, .ref l1, .ref l2, .ref l3, .ref l4, .ref l5, .ref l6, .ref l7, .ref l8, .int pn, .int b2_3, .int wt, .int mi, .int 0])), (l4, .inr (5, [.int m4, .ref d4, .int 0])), (l0, .inr (5, [.int m0, .ref d0, .int 0])), (l3, .inr (5, [.int m3, .ref d3, .int 0])), (q_11, .inr (4, [.int 0, .int (-1), .int m5, .ref l5])), (l5, .inr (5, [.int m5, .ref d5, .int 0]))] H := hP
  have hD : va_D A [(l7, .inr (5, [.int m7, .ref d7, .int 0])), (l6, .inr (5, [.int m6, .ref d6, .int 0])), (h, .inr (20, [.ref l0, .ref l1, .ref l2, .ref l3, .ref l4, .ref l5, .ref l6, .ref l7, .ref l8, .int pn, .int b2_3, .int wt, .int mi, .int 0])), (l4, .inr (5, [.int m4, .ref d4, .int 0])), (l0, .inr (5, [.int m0, .ref d0, .int 0])), (l3, .inr (5, [.int m3, .ref d3, .int 0])), (q_11, .inr (4, [.int 0, .int (-1), .int m5, .ref l5])), (l5, .inr (5, [.int m5, .ref d5, .int 0]))] := hD
  have hK : va_K (dC, dI) vwCl [] s := hK
  refine W.widen (k := 4) (n := 16) (Nat.le_of_ble_eq_true rfl) (Nat.le_of_ble_eq_true rfl) ?_
  refine lv_astore_n (lv' := [(1, .ref q_11), (0, .ref h)]) hx hb dX14_passes_151 rfl hl (by decide) rfl (fun ls hl => ?_)
  refine lv_aload_n hx hb dX14_passes_152 rfl (lv_at hl 0 rfl) ?_
  have hPc := hP.sub (ws' := [(q_11, .inr (4, [.int 0, .int (-1), .int m5, .ref l5])), (l5, .inr (5, [.int m5, .ref d5, .int 0]))]) [6, 7] rfl
  have hDc := hD.sub (ws' := [(q_11, .inr (4, [.int 0, .int (-1), .int m5, .ref l5])), (l5, .inr (5, [.int m5, .ref d5, .int 0]))]) [6, 7] (by decide) rfl
  have hKc := hK.sub (tys' := []) [] rfl
  have hFc := va_free (wc := [(q_11, .inr (4, [.int 0, .int (-1), .int m5, .ref l5])), (l5, .inr (5, [.int m5, .ref d5, .int 0]))]) hD hS hA [6, 7] rfl
  refine va_callFi (va_runF (As := []) (rest := []) (hK.1 4 _ rfl).2 ⟨hx, hb, hml, hown, hts⟩ (c_itr_hasNext l dC dI E q_11 l5 d5 m5 H.size) (va_cwF 0 hts gX14_passes_Jx35411_hasNext_aae02_f70Jx35411 rfl rfl rfl hE.1.2.2.2.2.2.2 (by decide +kernel) ⟨(Nat.le_of_ble_eq_true rfl), (Nat.le_of_ble_eq_true rfl)⟩) ⟨pre_blind, va_recv hKc hPc (ci := 4) (q0 := 0) rfl rfl, pre_call hPc hDc hKc hFc hE hZ hS⟩ rfl rfl hl.1 rfl (lv_room (Nat.le_of_ble_eq_true rfl)) dX14_passes_153 ⟨(Nat.le_of_ble_eq_true rfl), (Nat.le_of_ble_eq_true rfl)⟩) hS (fun q _ h => hFc q h) hFc (fun r u t H1 locs1 ht hvm hw hB hz1 hk1 hS => ?_)
  have hw9 : r = 0 := hw
  rw [hw9]
  obtain ⟨hP, hD, hK⟩ := pst_join (wc := [(q_11, .inr (4, [.int 0, .int (-1), .int m5, .ref l5])), (l5, .inr (5, [.int m5, .ref d5, .int 0]))]) (wr := [(l7, .inr (5, [.int m7, .ref d7, .int 0])), (l6, .inr (5, [.int m6, .ref d6, .int 0])), (h, .inr (20, [.ref l0, .ref l1, .ref l2, .ref l3, .ref l4, .ref l5, .ref l6, .ref l7, .ref l8, .int pn, .int b2_3, .int wt, .int mi, .int 0])), (l4, .inr (5, [.int m4, .ref d4, .int 0])), (l0, .inr (5, [.int m0, .ref d0, .int 0])), (l3, .inr (5, [.int m3, .ref d3, .int 0]))]) (w1 := [(l5, .inr (5, [.int m5, .ref d5, .int 0]))]) (tr := []) (t1 := []) hP hD hK [6, 7] [0, 1, 2, 3, 4, 5] [] rfl rfl rfl (by decide) (by decide) hk1 hFc ht hvm hB
  generalize H1 = H at hP hS ⊢
  have hP : va_P (dC, dI) vwCl [(l7, .inr (5, [.int m7, .ref d7, .int 0])), (l6, .inr (5, [.int m6, .ref d6, .int 0])), (h, .inr (20, [.ref l0, .ref l1, .ref l2, .ref l3, .ref l4, .ref l5, .ref l6, .ref l7, .ref l8, .int pn, .int b2_3, .int wt, .int mi, .int 0])), (l4, .inr (5, [.int m4, .ref d4, .int 0])), (l0, .inr (5, [.int m0, .ref d0, .int 0])), (l3, .inr (5, [.int m3, .ref d3, .int 0])), (l5, .inr (5, [.int m5, .ref d5, .int 0]))] H := hP
  have hD : va_D A [(l7, .inr (5, [.int m7, .ref d7, .int 0])), (l6, .inr (5, [.int m6, .ref d6, .int 0])), (h, .inr (20, [.ref l0, .ref l1, .ref l2, .ref l3, .ref l4, .ref l5, .ref l6, .ref l7, .ref l8, .int pn, .int b2_3, .int wt, .int mi, .int 0])), (l4, .inr (5, [.int m4, .ref d4, .int 0])), (l0, .inr (5, [.int m0, .ref d0, .int 0])), (l3, .inr (5, [.int m3, .ref d3, .int 0])), (l5, .inr (5, [.int m5, .ref d5, .int 0]))] := hD
  have hK : va_K (dC, dI) vwCl [] s := hK
  refine W.widen (k := 4) (n := 16) (Nat.le_of_ble_eq_true rfl) (Nat.le_of_ble_eq_true rfl) ?_
  refine lv_if_eq (tgt := 187) hx hb dX14_passes_158 (by decide) (fun _ => ?_) (fun c9 => absurd (by decide) c9)
  refine lv_aload_n hx hb dX14_passes_187 rfl (lv_at hl 1 rfl) ?_
  refine va_get (D := (dC, dI)) (ci := 20) (v := .int 0) (C := RX14) (T := TX14) (N := 14) hx hb hts (by decide +kernel) hown hK hP 2 rfl rfl 13 (by decide) (hts (.fieldLink RX14 55 "OrbitdockModel$Station" "isSafe" "Z") (by decide +kernel)) (fun _ h9 => h9) rfl dX14_passes_188 ?_
  refine lv_if_ne (tgt := 205) hx hb dX14_passes_191 (by decide) (fun c9 => absurd (by decide) c9) (fun _ => ?_)
  refine lv_aload_n hx hb dX14_passes_194 rfl (lv_at hl 1 rfl) ?_
  have hPc := hP.sub (ws' := [(h, .inr (20, [.ref l0, .ref l1, .ref l2, .ref l3, .ref l4, .ref l5, .ref l6, .ref l7, .ref l8, .int pn, .int b2_3, .int wt, .int mi, .int 0])), (l5, .inr (5, [.int m5, .ref d5, .int 0]))]) [2, 6] rfl
  have hDc := hD.sub (ws' := [(h, .inr (20, [.ref l0, .ref l1, .ref l2, .ref l3, .ref l4, .ref l5, .ref l6, .ref l7, .ref l8, .int pn, .int b2_3, .int wt, .int mi, .int 0])), (l5, .inr (5, [.int m5, .ref d5, .int 0]))]) [2, 6] (by decide) rfl
  have hKc := hK.sub (tys' := []) [] rfl
  have hFc := va_free (wc := [(h, .inr (20, [.ref l0, .ref l1, .ref l2, .ref l3, .ref l4, .ref l5, .ref l6, .ref l7, .ref l8, .int pn, .int b2_3, .int wt, .int mi, .int 0])), (l5, .inr (5, [.int m5, .ref d5, .int 0]))]) hD hS hA [2, 6] rfl
  refine va_calli (va_runV (As := []) (rest := []) ⟨hx, hb, hml, hown, hts⟩ (c_rs_isDanger l dC dI E h l0 l1 l2 l3 l4 l5 l6 l7 l8 pn b2_3 wt mi m5 d5 H.size) (cwV 0 hts gX14_passes_X14_isDanger rfl rfl rfl (by decide +kernel) ⟨(Nat.le_of_ble_eq_true rfl), (Nat.le_of_ble_eq_true rfl)⟩) ⟨pre_blind, va_recv hKc hPc (ci := 20) (q0 := 0) rfl rfl, pre_call hPc hDc hKc hFc hE hZ hS⟩ rfl rfl hl.1 rfl (lv_room (Nat.le_of_ble_eq_true rfl)) dX14_passes_195 ⟨(Nat.le_of_ble_eq_true rfl), (Nat.le_of_ble_eq_true rfl)⟩) hS (fun q _ h => hFc q h) hFc (fun r u t H1 locs1 ht hvm hw hB hz1 hk1 hS => ?_)
  have hw9 : r = 0 := hw
  rw [hw9]
  obtain ⟨hP, hD, hK⟩ := pst_join (wc := [(h, .inr (20, [.ref l0, .ref l1, .ref l2, .ref l3, .ref l4, .ref l5, .ref l6, .ref l7, .ref l8, .int pn, .int b2_3, .int wt, .int mi, .int 0])), (l5, .inr (5, [.int m5, .ref d5, .int 0]))]) (wr := [(l7, .inr (5, [.int m7, .ref d7, .int 0])), (l6, .inr (5, [.int m6, .ref d6, .int 0])), (l4, .inr (5, [.int m4, .ref d4, .int 0])), (l0, .inr (5, [.int m0, .ref d0, .int 0])), (l3, .inr (5, [.int m3, .ref d3, .int 0]))]) (w1 := [(h, .inr (20, [.ref l0, .ref l1, .ref l2, .ref l3, .ref l4, .ref l5, .ref l6, .ref l7, .ref l8, .int pn, .int b2_3, .int wt, .int mi, .int 0])), (l5, .inr (5, [.int m5, .ref d5, .int 0]))]) (tr := []) (t1 := []) hP hD hK [2, 6] [0, 1, 3, 4, 5] [] rfl rfl rfl (by decide) (by decide) hk1 hFc ht hvm hB
  generalize H1 = H at hP hS ⊢
  have hP : va_P (dC, dI) vwCl [(l7, .inr (5, [.int m7, .ref d7, .int 0])), (l6, .inr (5, [.int m6, .ref d6, .int 0])), (l4, .inr (5, [.int m4, .ref d4, .int 0])), (l0, .inr (5, [.int m0, .ref d0, .int 0])), (l3, .inr (5, [.int m3, .ref d3, .int 0])), (h, .inr (20, [.ref l0, .ref l1, .ref l2, .ref l3, .ref l4, .ref l5, .ref l6, .ref l7, .ref l8, .int pn, .int b2_3, .int wt, .int mi, .int 0])), (l5, .inr (5, [.int m5, .ref d5, .int 0]))] H := hP
  have hD : va_D A [(l7, .inr (5, [.int m7, .ref d7, .int 0])), (l6, .inr (5, [.int m6, .ref d6, .int 0])), (l4, .inr (5, [.int m4, .ref d4, .int 0])), (l0, .inr (5, [.int m0, .ref d0, .int 0])), (l3, .inr (5, [.int m3, .ref d3, .int 0])), (h, .inr (20, [.ref l0, .ref l1, .ref l2, .ref l3, .ref l4, .ref l5, .ref l6, .ref l7, .ref l8, .int pn, .int b2_3, .int wt, .int mi, .int 0])), (l5, .inr (5, [.int m5, .ref d5, .int 0]))] := hD
  have hK : va_K (dC, dI) vwCl [] s := hK
  refine W.widen (k := 5) (n := 20) (Nat.le_of_ble_eq_true rfl) (Nat.le_of_ble_eq_true rfl) ?_
  refine lv_if_eq (tgt := 205) hx hb dX14_passes_198 (by decide) (fun _ => ?_) (fun c9 => absurd (by decide) c9)
  refine lv_aload_n hx hb dX14_passes_205 rfl (lv_at hl 1 rfl) ?_
  refine lv_dup hx hb dX14_passes_206 rfl ?_
  refine va_get (D := (dC, dI)) (ci := 20) (v := .int mi) (C := RX14) (T := TX14) (N := 14) hx hb hts (by decide +kernel) hown hK hP 5 rfl rfl 12 (by decide) (hts (.fieldLink RX14 52 "OrbitdockModel$Station" "minute" "I") (by decide +kernel)) (fun _ h9 => h9) rfl dX14_passes_207 ?_
  refine lv_iconst (v := 1) hx hb dX14_passes_210 (by decide) ?_
  refine lv_iadd hx hb dX14_passes_211 ?_
  refine va_put (D := (dC, dI)) (ci := 20) (v := .int (mi + 1)) (ty := .int) (C := RX14) (T := TX14) (N := 14) hx hb hts (by decide +kernel) tyX14 tyX14_ok nmX14 hown hK hP hD hS 5 rfl rfl 12 (by decide) (hts (.fieldLink RX14 52 "OrbitdockModel$Station" "minute" "I") (by decide +kernel)) (fun _ h9 => h9) rfl (by decide +kernel) rfl rfl (Nat.le_of_ble_eq_true rfl) dX14_passes_212 (fun H locs hP hD hS => ?_)
  have hP : va_P (dC, dI) vwCl [(l7, .inr (5, [.int m7, .ref d7, .int 0])), (l6, .inr (5, [.int m6, .ref d6, .int 0])), (l4, .inr (5, [.int m4, .ref d4, .int 0])), (l0, .inr (5, [.int m0, .ref d0, .int 0])), (l3, .inr (5, [.int m3, .ref d3, .int 0])), (h, .inr (20, [.ref l0, .ref l1, .ref l2, .ref l3, .ref l4, .ref l5, .ref l6, .ref l7, .ref l8, .int pn, .int b2_3, .int wt, .int (mi + 1), .int 0])), (l5, .inr (5, [.int m5, .ref d5, .int 0]))] H := hP
  have hD : va_D A [(l7, .inr (5, [.int m7, .ref d7, .int 0])), (l6, .inr (5, [.int m6, .ref d6, .int 0])), (l4, .inr (5, [.int m4, .ref d4, .int 0])), (l0, .inr (5, [.int m0, .ref d0, .int 0])), (l3, .inr (5, [.int m3, .ref d3, .int 0])), (h, .inr (20, [.ref l0, .ref l1, .ref l2, .ref l3, .ref l4, .ref l5, .ref l6, .ref l7, .ref l8, .int pn, .int b2_3, .int wt, .int (mi + 1), .int 0])), (l5, .inr (5, [.int m5, .ref d5, .int 0]))] := hD
  have hP9 := hP.sub (ws' := [(h, .inr (20, [.ref l0, .ref l1, .ref l2, .ref l3, .ref l4, .ref l5, .ref l6, .ref l7, .ref l8, .int pn, .int b2_3, .int wt, .int (mi + 1), .int 0])), (l0, .inr (5, [.int m0, .ref d0, .int 0])), (l3, .inr (5, [.int m3, .ref d3, .int 0])), (l4, .inr (5, [.int m4, .ref d4, .int 0])), (l5, .inr (5, [.int m5, .ref d5, .int 0])), (l6, .inr (5, [.int m6, .ref d6, .int 0])), (l7, .inr (5, [.int m7, .ref d7, .int 0]))]) [5, 3, 4, 2, 6, 1, 0] rfl
  have hD9 := hD.sub (ws' := [(h, .inr (20, [.ref l0, .ref l1, .ref l2, .ref l3, .ref l4, .ref l5, .ref l6, .ref l7, .ref l8, .int pn, .int b2_3, .int wt, .int (mi + 1), .int 0])), (l0, .inr (5, [.int m0, .ref d0, .int 0])), (l3, .inr (5, [.int m3, .ref d3, .int 0])), (l4, .inr (5, [.int m4, .ref d4, .int 0])), (l5, .inr (5, [.int m5, .ref d5, .int 0])), (l6, .inr (5, [.int m6, .ref d6, .int 0])), (l7, .inr (5, [.int m7, .ref d7, .int 0]))]) [5, 3, 4, 2, 6, 1, 0] (by decide) rfl
  have hK9 := hK.sub (tys' := []) [] rfl
  refine W.widen (k := 5) (n := 20) (Nat.le_of_ble_eq_true rfl) (Nat.le_of_ble_eq_true rfl) ?_
  exact W.vret hx hb hr (fun t ht hW => ⟨⟨(), rfl, trivial, ⟨b2_3, pst_of hP9 hD9 hK9 ht hW⟩⟩, hS.F ht⟩) hS.2.2 dX14_passes_215

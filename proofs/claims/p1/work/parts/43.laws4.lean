set_option maxHeartbeats 4000000 in
set_option maxRecDepth 100000 in
theorem law_pass_n {p : Program} {l : Launch} {e : Env} {s : State} {m : MethodId} {below : List Frame} {meth : Method} {c : Code} {b : Nat} {xs : Nat → Int32} {dC : Nat → ClassId} {dI : Nat → Nat → Nat} {E : Nat → Nat} {sv1 : Int32} {sv2 : Int32} {sv3 : Int32} {sv4 : Int32} {sk1 : Int32} {sk2 : Int32} {x : Nat} {now : Nat} {fc : Nat} {mo : Nat} {s0 : Nat} {l0 : Nat} {l1 : Nat} {l2 : Nat} {l3 : Nat} {l4 : Nat} {l5 : Nat} {l6 : Nat} {l7 : Nat} {l8 : Nat} {oA : Nat} {oD : Nat} (hst : l.stackTraces = false) (C0 : lw_At p s m meth c b 5 xs) (hE : ev E s) (hZ : es E (fun q : Nat => s.heap.size ≤ q) s s.heap) (hv1 : sv1 = xs (1 : Int32).toNatClampNeg) (hv2 : sv2 = xs (2 : Int32).toNatClampNeg) (hv3 : sv3 = xs (3 : Int32).toNatClampNeg) (hv4 : sv4 = xs (4 : Int32).toNatClampNeg) (hch1 : sk1 = (sv1.toUInt32 % 65536).toInt32) (hch2 : sk2 = (sv2.toUInt32 % 65536).toInt32) {H : Heap} {locs : List Loc} {ls : Array Slot} (hK : va_K (dC, dI) vwCl [] s) (hP : va_P (dC, dI) vwCl [(x, .inr (14, [.ref now, .ref fc])), (mo, .inr (21, [.ref s0, .int 0])), (s0, .inr (20, [.ref l0, .ref l1, .ref l2, .ref l3, .ref l4, .ref l5, .ref l6, .ref l7, .ref l8, .int 10, .int 100, .int 50, .int 0, .int 0]))] H) (hD : va_D (fun q : Nat => s.heap.size ≤ q) [(x, .inr (14, [.ref now, .ref fc])), (mo, .inr (21, [.ref s0, .int 0])), (s0, .inr (20, [.ref l0, .ref l1, .ref l2, .ref l3, .ref l4, .ref l5, .ref l6, .ref l7, .ref l8, .int 10, .int 100, .int 50, .int 0, .int 0]))]) (hS : va_S (fun q : Nat => s.heap.size ≤ q) s.heap H locs) (hl : lv_has ls 9 [(0, .ref b), (1, .ref x), (2, .ref mo), (3, .ref oA), (4, .ref oD), (5, .int 0)]) (h : ¬ (¬ sv1 < 1 ∧ ¬ 90 < sv1)) : W p l e room_1 s m #[Value.ref b] below meth c H locs 76 1481 (lw_Z below #[Value.ref b] s) (F0 m 1108 ls []) := by
  obtain ⟨hx, hb, hr, hml, hown, hts, hX, hbl, hlocks, hgv⟩ := id C0
  have hA : ∀ q : Nat, s.heap.size ≤ q → (fun q : Nat => s.heap.size ≤ q) q := fun _ h => h
  have hbA : ¬ (fun q : Nat => s.heap.size ≤ q) b := Nat.not_le.mpr hbl
  have hown : s.vm.findClass RL = some m.cls := hown
  have htl : ∀ w ∈ wsL_law, w.before #[Value.ref b] s = true := fun w h => hts w (wsL_law_in w h)
  refine lv_aload_n hx hb dL_law_1108 rfl (lv_at hl 1 rfl) ?_
  refine lv_aload_n hx hb dL_law_1109 rfl (lv_at hl 0 rfl) ?_
  refine lv_iload hx hb dL_law_1110 (lv_at hl 5 rfl) ?_
  refine lv_iconst (v := 1) hx hb dL_law_1112 (by decide) ?_
  refine lv_iadd hx hb dL_law_1113 ?_
  refine lv_topi (fun z_1 ez_1 => ?_)
  obtain rfl : z_1 = 1 := ez_1.trans (by decide)
  refine va_sld hx hb hX hbl hbA hS (by unfold vp_in; decide) dL_law_1114 ?_
  refine lv_topi (fun z_2 ez_2 => ?_)
  obtain rfl : sv1 = z_2 := hv1.trans ez_2.symm
  refine lv_aload_n hx hb dL_law_1115 rfl (lv_at hl 3 rfl) ?_
  have hPc := hP.sub (ws' := [(x, .inr (14, [.ref now, .ref fc]))]) [0] rfl
  have hDc := hD.sub (ws' := [(x, .inr (14, [.ref now, .ref fc]))]) [0] (by decide) rfl
  have hKc := hK.sub (tys' := []) [] rfl
  have hFc := va_free (wc := [(x, .inr (14, [.ref now, .ref fc]))]) hD hS hA [0] rfl
  refine vx_calli (vx_runSX (As := [.ref x, .int sv1, .ref oA]) (rest := []) ⟨hx, hb, hml, hown, htl⟩ (c_w_pass_n l hst dC dI E x sv1 oA now fc H.size h) (vx_cwSW 3 htl gL_law_L_pass rfl rfl rfl (by decide +kernel) ⟨(Nat.le_of_ble_eq_true rfl), (Nat.le_of_ble_eq_true rfl)⟩) ⟨pre_blind, pre_call hPc hDc hKc hFc hE hZ hS⟩ rfl rfl hl.1 rfl (lv_room (Nat.le_of_ble_eq_true rfl)) dL_law_1116 ⟨(Nat.le_of_ble_eq_true rfl), (Nat.le_of_ble_eq_true rfl)⟩) hS (fun q _ h => hFc q h) hFc (fun q _ h => hFc q h) (fun E9 ce q9 u t H1 locs1 ht hvm hw hB hz1 hk1 hS hc9 hv9 hf9 => hw.elim) (fun r u t H1 locs1 ht hvm hw hB hz1 hk1 hS => ?_)
  have hw9 : r = 1 := hw
  rw [hw9]
  obtain ⟨hP, hD, hK⟩ := pst_drop (wc := [(x, .inr (14, [.ref now, .ref fc]))]) (wr := [(mo, .inr (21, [.ref s0, .int 0])), (s0, .inr (20, [.ref l0, .ref l1, .ref l2, .ref l3, .ref l4, .ref l5, .ref l6, .ref l7, .ref l8, .int 10, .int 100, .int 50, .int 0, .int 0]))]) (tr := []) hP hD hK [0] [1, 2] [] rfl rfl rfl (by decide) (by decide) hk1 hFc
  generalize H1 = H at hP hS ⊢
  have hP : va_P (dC, dI) vwCl [(mo, .inr (21, [.ref s0, .int 0])), (s0, .inr (20, [.ref l0, .ref l1, .ref l2, .ref l3, .ref l4, .ref l5, .ref l6, .ref l7, .ref l8, .int 10, .int 100, .int 50, .int 0, .int 0]))] H := hP
  have hD : va_D (fun q : Nat => s.heap.size ≤ q) [(mo, .inr (21, [.ref s0, .int 0])), (s0, .inr (20, [.ref l0, .ref l1, .ref l2, .ref l3, .ref l4, .ref l5, .ref l6, .ref l7, .ref l8, .int 10, .int 100, .int 50, .int 0, .int 0]))] := hD
  have hK : va_K (dC, dI) vwCl [] s := hK
  refine W.widen (k := 77) (n := 1487) (Nat.le_of_ble_eq_true rfl) (Nat.le_of_ble_eq_true rfl) ?_
  refine lv_istore (lv' := [(6, .int 1), (0, .ref b), (1, .ref x), (2, .ref mo), (3, .ref oA), (4, .ref oD), (5, .int 0)]) hx hb dL_law_1119 hl (by decide) rfl (fun ls hl => ?_)
  refine lv_aload_n hx hb dL_law_1121 rfl (lv_at hl 3 rfl) ?_
  refine lv_aload_n hx hb dL_law_1122 rfl (lv_at hl 1 rfl) ?_
  refine lv_iload hx hb dL_law_1123 (lv_at hl 6 rfl) ?_
  refine lv_iconst (v := 1) hx hb dL_law_1125 (by decide) ?_
  refine lv_iadd hx hb dL_law_1126 ?_
  refine lv_topi (fun z_4 ez_4 => ?_)
  obtain rfl : z_4 = 1 := ez_4.trans (by decide)
  refine va_sld hx hb hX hbl hbA hS (by unfold vp_in; decide) dL_law_1127 ?_
  refine lv_topi (fun z_5 ez_5 => ?_)
  obtain rfl : sv1 = z_5 := hv1.trans ez_5.symm
  have hPc := hP.sub (ws' := [(mo, .inr (21, [.ref s0, .int 0])), (s0, .inr (20, [.ref l0, .ref l1, .ref l2, .ref l3, .ref l4, .ref l5, .ref l6, .ref l7, .ref l8, .int 10, .int 100, .int 50, .int 0, .int 0]))]) [0, 1] rfl
  have hDc := hD.sub (ws' := [(mo, .inr (21, [.ref s0, .int 0])), (s0, .inr (20, [.ref l0, .ref l1, .ref l2, .ref l3, .ref l4, .ref l5, .ref l6, .ref l7, .ref l8, .int 10, .int 100, .int 50, .int 0, .int 0]))]) [0, 1] (by decide) rfl
  have hKc := hK.sub (tys' := []) [] rfl
  have hFc := va_free (wc := [(mo, .inr (21, [.ref s0, .int 0])), (s0, .inr (20, [.ref l0, .ref l1, .ref l2, .ref l3, .ref l4, .ref l5, .ref l6, .ref l7, .ref l8, .int 10, .int 100, .int 50, .int 0, .int 0]))]) hD hS hA [0, 1] rfl
  refine va_calli (va_runV (As := [.int sv1]) (rest := []) ⟨hx, hb, hml, hown, htl⟩ (c_rm_pass_n l dC dI E mo s0 l0 l1 l2 l3 l4 l5 l6 l7 l8 0 sv1 H.size h) (cwV 1 htl gL_law_X15_pass rfl rfl rfl (by decide +kernel) ⟨(Nat.le_of_ble_eq_true rfl), (Nat.le_of_ble_eq_true rfl)⟩) ⟨pre_blind, va_recv hKc hPc (ci := 21) (q0 := 0) rfl rfl, pre_call hPc hDc hKc hFc hE hZ hS⟩ rfl rfl hl.1 rfl (lv_room (Nat.le_of_ble_eq_true rfl)) dL_law_1128 ⟨(Nat.le_of_ble_eq_true rfl), (Nat.le_of_ble_eq_true rfl)⟩) hS (fun q _ h => hFc q h) hFc (fun r u t H1 locs1 ht hvm hw hB hz1 hk1 hS => ?_)
  have hw9 : r = 0 := hw
  rw [hw9]
  obtain ⟨hP, hD, hK⟩ := pst_join (wc := [(mo, .inr (21, [.ref s0, .int 0])), (s0, .inr (20, [.ref l0, .ref l1, .ref l2, .ref l3, .ref l4, .ref l5, .ref l6, .ref l7, .ref l8, .int 10, .int 100, .int 50, .int 0, .int 0]))]) (wr := []) (w1 := [(mo, .inr (21, [.ref s0, .int 1]))]) (tr := []) (t1 := []) hP hD hK [0, 1] [] [] rfl rfl rfl (by decide) (by decide) hk1 hFc ht hvm hB
  generalize H1 = H at hP hS ⊢
  have hP : va_P (dC, dI) vwCl [(mo, .inr (21, [.ref s0, .int 1]))] H := hP
  have hD : va_D (fun q : Nat => s.heap.size ≤ q) [(mo, .inr (21, [.ref s0, .int 1]))] := hD
  have hK : va_K (dC, dI) vwCl [] s := hK
  refine W.widen (k := 77) (n := 1487) (Nat.le_of_ble_eq_true rfl) (Nat.le_of_ble_eq_true rfl) ?_
  refine lv_istore (lv' := [(7, .int 0), (6, .int 1), (0, .ref b), (1, .ref x), (2, .ref mo), (3, .ref oA), (4, .ref oD), (5, .int 0)]) hx hb dL_law_1131 hl (by decide) rfl (fun ls hl => ?_)
  refine lv_aload_n hx hb dL_law_1133 rfl (lv_at hl 4 rfl) ?_
  have hPc := hP.sub (ws' := [(mo, .inr (21, [.ref s0, .int 1]))]) [0] rfl
  have hDc := hD.sub (ws' := [(mo, .inr (21, [.ref s0, .int 1]))]) [0] (by decide) rfl
  have hKc := hK.sub (tys' := []) [] rfl
  have hFc := va_free (wc := [(mo, .inr (21, [.ref s0, .int 1]))]) hD hS hA [0] rfl
  refine va_calli (va_runV (As := []) (rest := []) ⟨hx, hb, hml, hown, htl⟩ (c_rm_thrown l dC dI E mo s0 1 H.size) (cwV 0 htl gL_law_X15_thrown rfl rfl rfl (by decide +kernel) ⟨(Nat.le_of_ble_eq_true rfl), (Nat.le_of_ble_eq_true rfl)⟩) ⟨pre_blind, va_recv hKc hPc (ci := 21) (q0 := 0) rfl rfl, pre_call hPc hDc hKc hFc hE hZ hS⟩ rfl rfl hl.1 rfl (lv_room (Nat.le_of_ble_eq_true rfl)) dL_law_1134 ⟨(Nat.le_of_ble_eq_true rfl), (Nat.le_of_ble_eq_true rfl)⟩) hS (fun q _ h => hFc q h) hFc (fun r u t H1 locs1 ht hvm hw hB hz1 hk1 hS => ?_)
  have hw9 : r = 1 := hw
  rw [hw9]
  obtain ⟨hP, hD, hK⟩ := pst_join (wc := [(mo, .inr (21, [.ref s0, .int 1]))]) (wr := []) (w1 := [(mo, .inr (21, [.ref s0, .int 1]))]) (tr := []) (t1 := []) hP hD hK [0] [] [] rfl rfl rfl (by decide) (by decide) hk1 hFc ht hvm hB
  generalize H1 = H at hP hS ⊢
  have hP : va_P (dC, dI) vwCl [(mo, .inr (21, [.ref s0, .int 1]))] H := hP
  have hD : va_D (fun q : Nat => s.heap.size ≤ q) [(mo, .inr (21, [.ref s0, .int 1]))] := hD
  have hK : va_K (dC, dI) vwCl [] s := hK
  refine W.widen (k := 77) (n := 1487) (Nat.le_of_ble_eq_true rfl) (Nat.le_of_ble_eq_true rfl) ?_
  refine lv_iload hx hb dL_law_1137 (lv_at hl 1 rfl) ?_
  refine lv_icmp_eq (tgt := 1144) hx hb dL_law_1139 (by decide) (fun _ => ?_) (fun c9 => absurd (by decide) c9)
  refine lv_iload hx hb dL_law_1144 (lv_at hl 1 rfl) ?_
  refine lv_if_ne (tgt := 1161) hx hb dL_law_1146 (by decide) (fun _ => ?_) (fun c9 => absurd c9 (by decide))
  refine lv_goto (tgt := 1756) hx hb dL_law_1161 (by decide) ?_
  exact law_end C0 hS (lv_sub hl [2, 7] rfl) (Nat.le_of_ble_eq_true rfl) (Nat.le_of_ble_eq_true rfl)

set_option maxHeartbeats 4000000 in
set_option maxRecDepth 100000 in
theorem law_endSafe {p : Program} {l : Launch} {e : Env} {s : State} {m : MethodId} {below : List Frame} {meth : Method} {c : Code} {b : Nat} {xs : Nat → Int32} {dC : Nat → ClassId} {dI : Nat → Nat → Nat} {E : Nat → Nat} {sv1 : Int32} {sv2 : Int32} {sv3 : Int32} {sv4 : Int32} {sk1 : Int32} {sk2 : Int32} {x : Nat} {now : Nat} {fc : Nat} {ro : Nat} {hto : Nat} {de : Nat} {cr : Nat} {co : Nat} {sh : Nat} {eo : Nat} {mo : Nat} {s0 : Nat} {l0 : Nat} {l1 : Nat} {l2 : Nat} {l3 : Nat} {l4 : Nat} {l5 : Nat} {l6 : Nat} {l7 : Nat} {l8 : Nat} {oA : Nat} {oD : Nat} (hst : l.stackTraces = false) (C0 : lw_At p s m meth c b 5 xs) (hE : ev E s) (hZ : es E (fun q : Nat => s.heap.size ≤ q) s s.heap) (hv1 : sv1 = xs (1 : Int32).toNatClampNeg) (hv2 : sv2 = xs (2 : Int32).toNatClampNeg) (hv3 : sv3 = xs (3 : Int32).toNatClampNeg) (hv4 : sv4 = xs (4 : Int32).toNatClampNeg) (hch1 : sk1 = (sv1.toUInt32 % 65536).toInt32) (hch2 : sk2 = (sv2.toUInt32 % 65536).toInt32) {H : Heap} {locs : List Loc} {ls : Array Slot} (hK : va_K (dC, dI) vwCl [] s) (hP : va_P (dC, dI) vwCl [(x, .inr (14, [.ref now, .ref fc])), (now, .inr (13, [.ref ro, .ref hto, .ref de, .ref cr, .ref co, .ref sh, .ref eo, .int 0, .int 0, .int 10, .int 100, .int 50, .int 0, .int 50])), (mo, .inr (21, [.ref s0, .int 0])), (s0, .inr (20, [.ref l0, .ref l1, .ref l2, .ref l3, .ref l4, .ref l5, .ref l6, .ref l7, .ref l8, .int 10, .int 100, .int 50, .int 0, .int 0]))] H) (hD : va_D (fun q : Nat => s.heap.size ≤ q) [(x, .inr (14, [.ref now, .ref fc])), (now, .inr (13, [.ref ro, .ref hto, .ref de, .ref cr, .ref co, .ref sh, .ref eo, .int 0, .int 0, .int 10, .int 100, .int 50, .int 0, .int 50])), (mo, .inr (21, [.ref s0, .int 0])), (s0, .inr (20, [.ref l0, .ref l1, .ref l2, .ref l3, .ref l4, .ref l5, .ref l6, .ref l7, .ref l8, .int 10, .int 100, .int 50, .int 0, .int 0]))]) (hS : va_S (fun q : Nat => s.heap.size ≤ q) s.heap H locs) (hl : lv_has ls 9 [(0, .ref b), (1, .ref x), (2, .ref mo), (3, .ref oA), (4, .ref oD), (5, .int 0)]) : W p l e room_1 s m #[Value.ref b] below meth c H locs 76 1481 (lw_Z below #[Value.ref b] s) (F0 m 1164 ls []) := by
  obtain ⟨hx, hb, hr, hml, hown, hts, hX, hbl, hlocks, hgv⟩ := id C0
  have hA : ∀ q : Nat, s.heap.size ≤ q → (fun q : Nat => s.heap.size ≤ q) q := fun _ h => h
  have hbA : ¬ (fun q : Nat => s.heap.size ≤ q) b := Nat.not_le.mpr hbl
  have hown : s.vm.findClass RL = some m.cls := hown
  have htl : ∀ w ∈ wsL_law, w.before #[Value.ref b] s = true := fun w h => hts w (wsL_law_in w h)
  refine lv_aload_n hx hb dL_law_1164 rfl (lv_at hl 1 rfl) ?_
  have hPc := hP.sub (ws' := [(x, .inr (14, [.ref now, .ref fc])), (now, .inr (13, [.ref ro, .ref hto, .ref de, .ref cr, .ref co, .ref sh, .ref eo, .int 0, .int 0, .int 10, .int 100, .int 50, .int 0, .int 50]))]) [0, 1] rfl
  have hDc := hD.sub (ws' := [(x, .inr (14, [.ref now, .ref fc])), (now, .inr (13, [.ref ro, .ref hto, .ref de, .ref cr, .ref co, .ref sh, .ref eo, .int 0, .int 0, .int 10, .int 100, .int 50, .int 0, .int 50]))]) [0, 1] (by decide) rfl
  have hKc := hK.sub (tys' := []) [] rfl
  have hFc := va_free (wc := [(x, .inr (14, [.ref now, .ref fc])), (now, .inr (13, [.ref ro, .ref hto, .ref de, .ref cr, .ref co, .ref sh, .ref eo, .int 0, .int 0, .int 10, .int 100, .int 50, .int 0, .int 50]))]) hD hS hA [0, 1] rfl
  refine va_calli (va_runV (As := []) (rest := []) ⟨hx, hb, hml, hown, htl⟩ (c_cx_endSafe l dC dI E x now fc ro hto de cr co sh eo H.size) (cwV 0 htl gL_law_X8_endSafe rfl rfl rfl (by decide +kernel) ⟨(Nat.le_of_ble_eq_true rfl), (Nat.le_of_ble_eq_true rfl)⟩) ⟨pre_blind, va_recv hKc hPc (ci := 14) (q0 := 0) rfl rfl, pre_call hPc hDc hKc hFc hE hZ hS⟩ rfl rfl hl.1 rfl (lv_room (Nat.le_of_ble_eq_true rfl)) dL_law_1165 ⟨(Nat.le_of_ble_eq_true rfl), (Nat.le_of_ble_eq_true rfl)⟩) hS (fun q _ h => hFc q h) hFc (fun r u t H1 locs1 ht hvm hw hB hz1 hk1 hS => ?_)
  have hw9 : r = 0 := hw
  rw [hw9]
  obtain ⟨hP, hD, hK⟩ := pst_drop (wc := [(x, .inr (14, [.ref now, .ref fc])), (now, .inr (13, [.ref ro, .ref hto, .ref de, .ref cr, .ref co, .ref sh, .ref eo, .int 0, .int 0, .int 10, .int 100, .int 50, .int 0, .int 50]))]) (wr := [(mo, .inr (21, [.ref s0, .int 0])), (s0, .inr (20, [.ref l0, .ref l1, .ref l2, .ref l3, .ref l4, .ref l5, .ref l6, .ref l7, .ref l8, .int 10, .int 100, .int 50, .int 0, .int 0]))]) (tr := []) hP hD hK [0, 1] [2, 3] [] rfl rfl rfl (by decide) (by decide) hk1 hFc
  generalize H1 = H at hP hS ⊢
  have hP : va_P (dC, dI) vwCl [(mo, .inr (21, [.ref s0, .int 0])), (s0, .inr (20, [.ref l0, .ref l1, .ref l2, .ref l3, .ref l4, .ref l5, .ref l6, .ref l7, .ref l8, .int 10, .int 100, .int 50, .int 0, .int 0]))] H := hP
  have hD : va_D (fun q : Nat => s.heap.size ≤ q) [(mo, .inr (21, [.ref s0, .int 0])), (s0, .inr (20, [.ref l0, .ref l1, .ref l2, .ref l3, .ref l4, .ref l5, .ref l6, .ref l7, .ref l8, .int 10, .int 100, .int 50, .int 0, .int 0]))] := hD
  have hK : va_K (dC, dI) vwCl [] s := hK
  refine W.widen (k := 76) (n := 1481) (Nat.le_of_ble_eq_true rfl) (Nat.le_of_ble_eq_true rfl) ?_
  refine lv_aload_n hx hb dL_law_1168 rfl (lv_at hl 2 rfl) ?_
  have hPc := hP.sub (ws' := [(mo, .inr (21, [.ref s0, .int 0])), (s0, .inr (20, [.ref l0, .ref l1, .ref l2, .ref l3, .ref l4, .ref l5, .ref l6, .ref l7, .ref l8, .int 10, .int 100, .int 50, .int 0, .int 0]))]) [0, 1] rfl
  have hDc := hD.sub (ws' := [(mo, .inr (21, [.ref s0, .int 0])), (s0, .inr (20, [.ref l0, .ref l1, .ref l2, .ref l3, .ref l4, .ref l5, .ref l6, .ref l7, .ref l8, .int 10, .int 100, .int 50, .int 0, .int 0]))]) [0, 1] (by decide) rfl
  have hKc := hK.sub (tys' := []) [] rfl
  have hFc := va_free (wc := [(mo, .inr (21, [.ref s0, .int 0])), (s0, .inr (20, [.ref l0, .ref l1, .ref l2, .ref l3, .ref l4, .ref l5, .ref l6, .ref l7, .ref l8, .int 10, .int 100, .int 50, .int 0, .int 0]))]) hD hS hA [0, 1] rfl
  refine va_calli (va_runV (As := []) (rest := [.int 0]) ⟨hx, hb, hml, hown, htl⟩ (c_rm_endSafe l dC dI E mo s0 l0 l1 l2 l3 l4 l5 l6 l7 l8 0 H.size) (cwV 0 htl gL_law_X15_endSafe rfl rfl rfl (by decide +kernel) ⟨(Nat.le_of_ble_eq_true rfl), (Nat.le_of_ble_eq_true rfl)⟩) ⟨pre_blind, va_recv hKc hPc (ci := 21) (q0 := 0) rfl rfl, pre_call hPc hDc hKc hFc hE hZ hS⟩ rfl rfl hl.1 rfl (lv_room (Nat.le_of_ble_eq_true rfl)) dL_law_1169 ⟨(Nat.le_of_ble_eq_true rfl), (Nat.le_of_ble_eq_true rfl)⟩) hS (fun q _ h => hFc q h) hFc (fun r u t H1 locs1 ht hvm hw hB hz1 hk1 hS => ?_)
  have hw9 : r = 0 := hw
  rw [hw9]
  obtain ⟨hP, hD, hK⟩ := pst_drop (wc := [(mo, .inr (21, [.ref s0, .int 0])), (s0, .inr (20, [.ref l0, .ref l1, .ref l2, .ref l3, .ref l4, .ref l5, .ref l6, .ref l7, .ref l8, .int 10, .int 100, .int 50, .int 0, .int 0]))]) (wr := []) (tr := []) hP hD hK [0, 1] [] [] rfl rfl rfl (by decide) (by decide) hk1 hFc
  generalize H1 = H at hP hS ⊢
  have hP : va_P (dC, dI) vwCl [] H := hP
  have hD : va_D (fun q : Nat => s.heap.size ≤ q) [] := hD
  have hK : va_K (dC, dI) vwCl [] s := hK
  refine W.widen (k := 76) (n := 1481) (Nat.le_of_ble_eq_true rfl) (Nat.le_of_ble_eq_true rfl) ?_
  refine lv_icmp_eq (tgt := 1756) hx hb dL_law_1172 (by decide) (fun _ => ?_) (fun c9 => absurd (by decide) c9)
  exact law_end C0 hS (lv_sub hl [0, 5] rfl) (Nat.le_of_ble_eq_true rfl) (Nat.le_of_ble_eq_true rfl)

set_option maxHeartbeats 4000000 in
set_option maxRecDepth 100000 in
theorem law_oxygen {p : Program} {l : Launch} {e : Env} {s : State} {m : MethodId} {below : List Frame} {meth : Method} {c : Code} {b : Nat} {xs : Nat → Int32} {dC : Nat → ClassId} {dI : Nat → Nat → Nat} {E : Nat → Nat} {sv1 : Int32} {sv2 : Int32} {sv3 : Int32} {sv4 : Int32} {sk1 : Int32} {sk2 : Int32} {x : Nat} {now : Nat} {fc : Nat} {ro : Nat} {hto : Nat} {de : Nat} {cr : Nat} {co : Nat} {sh : Nat} {eo : Nat} {a0 : Nat} {a1 : Nat} {a2 : Nat} {mo : Nat} {s0 : Nat} {l0 : Nat} {l1 : Nat} {l2 : Nat} {l3 : Nat} {l4 : Nat} {l5 : Nat} {l6 : Nat} {l7 : Nat} {l8 : Nat} {oA : Nat} {oD : Nat} (hst : l.stackTraces = false) (C0 : lw_At p s m meth c b 5 xs) (hE : ev E s) (hZ : es E (fun q : Nat => s.heap.size ≤ q) s s.heap) (hv1 : sv1 = xs (1 : Int32).toNatClampNeg) (hv2 : sv2 = xs (2 : Int32).toNatClampNeg) (hv3 : sv3 = xs (3 : Int32).toNatClampNeg) (hv4 : sv4 = xs (4 : Int32).toNatClampNeg) (hch1 : sk1 = (sv1.toUInt32 % 65536).toInt32) (hch2 : sk2 = (sv2.toUInt32 % 65536).toInt32) {H : Heap} {locs : List Loc} {ls : Array Slot} (hK : va_K (dC, dI) vwCl [] s) (hP : va_P (dC, dI) vwCl [(x, .inr (14, [.ref now, .ref fc])), (now, .inr (13, [.ref ro, .ref hto, .ref de, .ref cr, .ref co, .ref sh, .ref eo, .int 0, .int 0, .int 10, .int 100, .int 50, .int 0, .int 50])), (ro, .inr (11, [.ref a0, .ref a1, .ref a2, .int 0, .int 0])), (mo, .inr (21, [.ref s0, .int 0])), (s0, .inr (20, [.ref l0, .ref l1, .ref l2, .ref l3, .ref l4, .ref l5, .ref l6, .ref l7, .ref l8, .int 10, .int 100, .int 50, .int 0, .int 0])), (l0, .inr (5, [.int 0, .ref (E 0), .int 0]))] H) (hD : va_D (fun q : Nat => s.heap.size ≤ q) [(x, .inr (14, [.ref now, .ref fc])), (now, .inr (13, [.ref ro, .ref hto, .ref de, .ref cr, .ref co, .ref sh, .ref eo, .int 0, .int 0, .int 10, .int 100, .int 50, .int 0, .int 50])), (ro, .inr (11, [.ref a0, .ref a1, .ref a2, .int 0, .int 0])), (mo, .inr (21, [.ref s0, .int 0])), (s0, .inr (20, [.ref l0, .ref l1, .ref l2, .ref l3, .ref l4, .ref l5, .ref l6, .ref l7, .ref l8, .int 10, .int 100, .int 50, .int 0, .int 0])), (l0, .inr (5, [.int 0, .ref (E 0), .int 0]))]) (hS : va_S (fun q : Nat => s.heap.size ≤ q) s.heap H locs) (hl : lv_has ls 9 [(0, .ref b), (1, .ref x), (2, .ref mo), (3, .ref oA), (4, .ref oD), (5, .int 0)]) : W p l e room_1 s m #[Value.ref b] below meth c H locs 76 1481 (lw_Z below #[Value.ref b] s) (F0 m 1177 ls []) := by
  obtain ⟨hx, hb, hr, hml, hown, hts, hX, hbl, hlocks, hgv⟩ := id C0
  have hA : ∀ q : Nat, s.heap.size ≤ q → (fun q : Nat => s.heap.size ≤ q) q := fun _ h => h
  have hbA : ¬ (fun q : Nat => s.heap.size ≤ q) b := Nat.not_le.mpr hbl
  have hown : s.vm.findClass RL = some m.cls := hown
  have htl : ∀ w ∈ wsL_law, w.before #[Value.ref b] s = true := fun w h => hts w (wsL_law_in w h)
  refine lv_aload_n hx hb dL_law_1177 rfl (lv_at hl 1 rfl) ?_
  refine lv_aload_n hx hb dL_law_1178 rfl (lv_at hl 0 rfl) ?_
  refine lv_iload hx hb dL_law_1179 (lv_at hl 5 rfl) ?_
  refine lv_iconst (v := 1) hx hb dL_law_1181 (by decide) ?_
  refine lv_iadd hx hb dL_law_1182 ?_
  refine lv_topi (fun z_1 ez_1 => ?_)
  obtain rfl : z_1 = 1 := ez_1.trans (by decide)
  refine va_sld hx hb hX hbl hbA hS (by unfold vp_in; decide) dL_law_1183 ?_
  refine lv_topi (fun z_2 ez_2 => ?_)
  obtain rfl : sv1 = z_2 := hv1.trans ez_2.symm
  refine lv_aload_n hx hb dL_law_1184 rfl (lv_at hl 3 rfl) ?_
  have hPc := hP.sub (ws' := [(x, .inr (14, [.ref now, .ref fc])), (now, .inr (13, [.ref ro, .ref hto, .ref de, .ref cr, .ref co, .ref sh, .ref eo, .int 0, .int 0, .int 10, .int 100, .int 50, .int 0, .int 50])), (ro, .inr (11, [.ref a0, .ref a1, .ref a2, .int 0, .int 0]))]) [0, 1, 2] rfl
  have hDc := hD.sub (ws' := [(x, .inr (14, [.ref now, .ref fc])), (now, .inr (13, [.ref ro, .ref hto, .ref de, .ref cr, .ref co, .ref sh, .ref eo, .int 0, .int 0, .int 10, .int 100, .int 50, .int 0, .int 50])), (ro, .inr (11, [.ref a0, .ref a1, .ref a2, .int 0, .int 0]))]) [0, 1, 2] (by decide) rfl
  have hKc := hK.sub (tys' := []) [] rfl
  have hFc := va_free (wc := [(x, .inr (14, [.ref now, .ref fc])), (now, .inr (13, [.ref ro, .ref hto, .ref de, .ref cr, .ref co, .ref sh, .ref eo, .int 0, .int 0, .int 10, .int 100, .int 50, .int 0, .int 50])), (ro, .inr (11, [.ref a0, .ref a1, .ref a2, .int 0, .int 0]))]) hD hS hA [0, 1, 2] rfl
  refine vx_calli (vx_runSX (As := [.ref x, .int sv1, .ref oA]) (rest := []) ⟨hx, hb, hml, hown, htl⟩ (c_w_oxygen l hst dC dI E x now fc ro hto de cr co sh eo a0 a1 a2 sv1 oA H.size) (vx_cwSW 3 htl gL_law_L_oxygen rfl rfl rfl (by decide +kernel) ⟨(Nat.le_of_ble_eq_true rfl), (Nat.le_of_ble_eq_true rfl)⟩) ⟨pre_blind, pre_call hPc hDc hKc hFc hE hZ hS⟩ rfl rfl hl.1 rfl (lv_room (Nat.le_of_ble_eq_true rfl)) dL_law_1185 ⟨(Nat.le_of_ble_eq_true rfl), (Nat.le_of_ble_eq_true rfl)⟩) hS (fun q _ h => hFc q h) hFc (fun q _ h => hFc q h) (fun E9 ce q9 u t H1 locs1 ht hvm hw hB hz1 hk1 hS hc9 hv9 hf9 => hw.elim) (fun r u t H1 locs1 ht hvm hw hB hz1 hk1 hS => ?_)
  have hw9 : r = 1 := hw
  rw [hw9]
  obtain ⟨hP, hD, hK⟩ := pst_drop (wc := [(x, .inr (14, [.ref now, .ref fc])), (now, .inr (13, [.ref ro, .ref hto, .ref de, .ref cr, .ref co, .ref sh, .ref eo, .int 0, .int 0, .int 10, .int 100, .int 50, .int 0, .int 50])), (ro, .inr (11, [.ref a0, .ref a1, .ref a2, .int 0, .int 0]))]) (wr := [(mo, .inr (21, [.ref s0, .int 0])), (s0, .inr (20, [.ref l0, .ref l1, .ref l2, .ref l3, .ref l4, .ref l5, .ref l6, .ref l7, .ref l8, .int 10, .int 100, .int 50, .int 0, .int 0])), (l0, .inr (5, [.int 0, .ref (E 0), .int 0]))]) (tr := []) hP hD hK [0, 1, 2] [3, 4, 5] [] rfl rfl rfl (by decide) (by decide) hk1 hFc
  generalize H1 = H at hP hS ⊢
  have hP : va_P (dC, dI) vwCl [(mo, .inr (21, [.ref s0, .int 0])), (s0, .inr (20, [.ref l0, .ref l1, .ref l2, .ref l3, .ref l4, .ref l5, .ref l6, .ref l7, .ref l8, .int 10, .int 100, .int 50, .int 0, .int 0])), (l0, .inr (5, [.int 0, .ref (E 0), .int 0]))] H := hP
  have hD : va_D (fun q : Nat => s.heap.size ≤ q) [(mo, .inr (21, [.ref s0, .int 0])), (s0, .inr (20, [.ref l0, .ref l1, .ref l2, .ref l3, .ref l4, .ref l5, .ref l6, .ref l7, .ref l8, .int 10, .int 100, .int 50, .int 0, .int 0])), (l0, .inr (5, [.int 0, .ref (E 0), .int 0]))] := hD
  have hK : va_K (dC, dI) vwCl [] s := hK
  refine W.widen (k := 77) (n := 1487) (Nat.le_of_ble_eq_true rfl) (Nat.le_of_ble_eq_true rfl) ?_
  refine lv_istore (lv' := [(6, .int 1), (0, .ref b), (1, .ref x), (2, .ref mo), (3, .ref oA), (4, .ref oD), (5, .int 0)]) hx hb dL_law_1188 hl (by decide) rfl (fun ls hl => ?_)
  refine lv_aload_n hx hb dL_law_1190 rfl (lv_at hl 3 rfl) ?_
  refine lv_aload_n hx hb dL_law_1191 rfl (lv_at hl 1 rfl) ?_
  refine lv_iload hx hb dL_law_1192 (lv_at hl 6 rfl) ?_
  refine lv_iconst (v := 1) hx hb dL_law_1194 (by decide) ?_
  refine lv_iadd hx hb dL_law_1195 ?_
  refine lv_topi (fun z_4 ez_4 => ?_)
  obtain rfl : z_4 = 1 := ez_4.trans (by decide)
  refine va_sld hx hb hX hbl hbA hS (by unfold vp_in; decide) dL_law_1196 ?_
  refine lv_topi (fun z_5 ez_5 => ?_)
  obtain rfl : sv1 = z_5 := hv1.trans ez_5.symm
  have hPc := hP.sub (ws' := [(mo, .inr (21, [.ref s0, .int 0])), (s0, .inr (20, [.ref l0, .ref l1, .ref l2, .ref l3, .ref l4, .ref l5, .ref l6, .ref l7, .ref l8, .int 10, .int 100, .int 50, .int 0, .int 0])), (l0, .inr (5, [.int 0, .ref (E 0), .int 0]))]) [0, 1, 2] rfl
  have hDc := hD.sub (ws' := [(mo, .inr (21, [.ref s0, .int 0])), (s0, .inr (20, [.ref l0, .ref l1, .ref l2, .ref l3, .ref l4, .ref l5, .ref l6, .ref l7, .ref l8, .int 10, .int 100, .int 50, .int 0, .int 0])), (l0, .inr (5, [.int 0, .ref (E 0), .int 0]))]) [0, 1, 2] (by decide) rfl
  have hKc := hK.sub (tys' := []) [] rfl
  have hFc := va_free (wc := [(mo, .inr (21, [.ref s0, .int 0])), (s0, .inr (20, [.ref l0, .ref l1, .ref l2, .ref l3, .ref l4, .ref l5, .ref l6, .ref l7, .ref l8, .int 10, .int 100, .int 50, .int 0, .int 0])), (l0, .inr (5, [.int 0, .ref (E 0), .int 0]))]) hD hS hA [0, 1, 2] rfl
  refine va_calli (va_runV (As := [.int sv1]) (rest := []) ⟨hx, hb, hml, hown, htl⟩ (c_rm_oxygen l dC dI E mo s0 l0 l1 l2 l3 l4 l5 l6 l7 l8 0 sv1 H.size) (cwV 1 htl gL_law_X15_oxygen rfl rfl rfl (by decide +kernel) ⟨(Nat.le_of_ble_eq_true rfl), (Nat.le_of_ble_eq_true rfl)⟩) ⟨pre_blind, va_recv hKc hPc (ci := 21) (q0 := 0) rfl rfl, pre_call hPc hDc hKc hFc hE hZ hS⟩ rfl rfl hl.1 rfl (lv_room (Nat.le_of_ble_eq_true rfl)) dL_law_1197 ⟨(Nat.le_of_ble_eq_true rfl), (Nat.le_of_ble_eq_true rfl)⟩) hS (fun q _ h => hFc q h) hFc (fun r u t H1 locs1 ht hvm hw hB hz1 hk1 hS => ?_)
  have hw9 : r = 0 := hw
  rw [hw9]
  obtain ⟨hP, hD, hK⟩ := pst_join (wc := [(mo, .inr (21, [.ref s0, .int 0])), (s0, .inr (20, [.ref l0, .ref l1, .ref l2, .ref l3, .ref l4, .ref l5, .ref l6, .ref l7, .ref l8, .int 10, .int 100, .int 50, .int 0, .int 0])), (l0, .inr (5, [.int 0, .ref (E 0), .int 0]))]) (wr := []) (w1 := [(mo, .inr (21, [.ref s0, .int 1]))]) (tr := []) (t1 := []) hP hD hK [0, 1, 2] [] [] rfl rfl rfl (by decide) (by decide) hk1 hFc ht hvm hB
  generalize H1 = H at hP hS ⊢
  have hP : va_P (dC, dI) vwCl [(mo, .inr (21, [.ref s0, .int 1]))] H := hP
  have hD : va_D (fun q : Nat => s.heap.size ≤ q) [(mo, .inr (21, [.ref s0, .int 1]))] := hD
  have hK : va_K (dC, dI) vwCl [] s := hK
  refine W.widen (k := 77) (n := 1487) (Nat.le_of_ble_eq_true rfl) (Nat.le_of_ble_eq_true rfl) ?_
  refine lv_istore (lv' := [(7, .int 0), (6, .int 1), (0, .ref b), (1, .ref x), (2, .ref mo), (3, .ref oA), (4, .ref oD), (5, .int 0)]) hx hb dL_law_1200 hl (by decide) rfl (fun ls hl => ?_)
  refine lv_aload_n hx hb dL_law_1202 rfl (lv_at hl 4 rfl) ?_
  have hPc := hP.sub (ws' := [(mo, .inr (21, [.ref s0, .int 1]))]) [0] rfl
  have hDc := hD.sub (ws' := [(mo, .inr (21, [.ref s0, .int 1]))]) [0] (by decide) rfl
  have hKc := hK.sub (tys' := []) [] rfl
  have hFc := va_free (wc := [(mo, .inr (21, [.ref s0, .int 1]))]) hD hS hA [0] rfl
  refine va_calli (va_runV (As := []) (rest := []) ⟨hx, hb, hml, hown, htl⟩ (c_rm_thrown l dC dI E mo s0 1 H.size) (cwV 0 htl gL_law_X15_thrown rfl rfl rfl (by decide +kernel) ⟨(Nat.le_of_ble_eq_true rfl), (Nat.le_of_ble_eq_true rfl)⟩) ⟨pre_blind, va_recv hKc hPc (ci := 21) (q0 := 0) rfl rfl, pre_call hPc hDc hKc hFc hE hZ hS⟩ rfl rfl hl.1 rfl (lv_room (Nat.le_of_ble_eq_true rfl)) dL_law_1203 ⟨(Nat.le_of_ble_eq_true rfl), (Nat.le_of_ble_eq_true rfl)⟩) hS (fun q _ h => hFc q h) hFc (fun r u t H1 locs1 ht hvm hw hB hz1 hk1 hS => ?_)
  have hw9 : r = 1 := hw
  rw [hw9]
  obtain ⟨hP, hD, hK⟩ := pst_join (wc := [(mo, .inr (21, [.ref s0, .int 1]))]) (wr := []) (w1 := [(mo, .inr (21, [.ref s0, .int 1]))]) (tr := []) (t1 := []) hP hD hK [0] [] [] rfl rfl rfl (by decide) (by decide) hk1 hFc ht hvm hB
  generalize H1 = H at hP hS ⊢
  have hP : va_P (dC, dI) vwCl [(mo, .inr (21, [.ref s0, .int 1]))] H := hP
  have hD : va_D (fun q : Nat => s.heap.size ≤ q) [(mo, .inr (21, [.ref s0, .int 1]))] := hD
  have hK : va_K (dC, dI) vwCl [] s := hK
  refine W.widen (k := 77) (n := 1487) (Nat.le_of_ble_eq_true rfl) (Nat.le_of_ble_eq_true rfl) ?_
  refine lv_iload hx hb dL_law_1206 (lv_at hl 1 rfl) ?_
  refine lv_icmp_eq (tgt := 1213) hx hb dL_law_1208 (by decide) (fun _ => ?_) (fun c9 => absurd (by decide) c9)
  refine lv_iload hx hb dL_law_1213 (lv_at hl 1 rfl) ?_
  refine lv_if_ne (tgt := 1230) hx hb dL_law_1215 (by decide) (fun _ => ?_) (fun c9 => absurd c9 (by decide))
  refine lv_goto (tgt := 1756) hx hb dL_law_1230 (by decide) ?_
  exact law_end C0 hS (lv_sub hl [2, 7] rfl) (Nat.le_of_ble_eq_true rfl) (Nat.le_of_ble_eq_true rfl)

set_option maxHeartbeats 4000000 in
set_option maxRecDepth 100000 in
theorem law_carbon {p : Program} {l : Launch} {e : Env} {s : State} {m : MethodId} {below : List Frame} {meth : Method} {c : Code} {b : Nat} {xs : Nat → Int32} {dC : Nat → ClassId} {dI : Nat → Nat → Nat} {E : Nat → Nat} {sv1 : Int32} {sv2 : Int32} {sv3 : Int32} {sv4 : Int32} {sk1 : Int32} {sk2 : Int32} {x : Nat} {now : Nat} {fc : Nat} {ro : Nat} {hto : Nat} {de : Nat} {cr : Nat} {co : Nat} {sh : Nat} {eo : Nat} {a0 : Nat} {a1 : Nat} {a2 : Nat} {mo : Nat} {s0 : Nat} {l0 : Nat} {l1 : Nat} {l2 : Nat} {l3 : Nat} {l4 : Nat} {l5 : Nat} {l6 : Nat} {l7 : Nat} {l8 : Nat} {oA : Nat} {oD : Nat} (hst : l.stackTraces = false) (C0 : lw_At p s m meth c b 5 xs) (hE : ev E s) (hZ : es E (fun q : Nat => s.heap.size ≤ q) s s.heap) (hv1 : sv1 = xs (1 : Int32).toNatClampNeg) (hv2 : sv2 = xs (2 : Int32).toNatClampNeg) (hv3 : sv3 = xs (3 : Int32).toNatClampNeg) (hv4 : sv4 = xs (4 : Int32).toNatClampNeg) (hch1 : sk1 = (sv1.toUInt32 % 65536).toInt32) (hch2 : sk2 = (sv2.toUInt32 % 65536).toInt32) {H : Heap} {locs : List Loc} {ls : Array Slot} (hK : va_K (dC, dI) vwCl [] s) (hP : va_P (dC, dI) vwCl [(x, .inr (14, [.ref now, .ref fc])), (now, .inr (13, [.ref ro, .ref hto, .ref de, .ref cr, .ref co, .ref sh, .ref eo, .int 0, .int 0, .int 10, .int 100, .int 50, .int 0, .int 50])), (ro, .inr (11, [.ref a0, .ref a1, .ref a2, .int 0, .int 0])), (mo, .inr (21, [.ref s0, .int 0])), (s0, .inr (20, [.ref l0, .ref l1, .ref l2, .ref l3, .ref l4, .ref l5, .ref l6, .ref l7, .ref l8, .int 10, .int 100, .int 50, .int 0, .int 0])), (l0, .inr (5, [.int 0, .ref (E 0), .int 0]))] H) (hD : va_D (fun q : Nat => s.heap.size ≤ q) [(x, .inr (14, [.ref now, .ref fc])), (now, .inr (13, [.ref ro, .ref hto, .ref de, .ref cr, .ref co, .ref sh, .ref eo, .int 0, .int 0, .int 10, .int 100, .int 50, .int 0, .int 50])), (ro, .inr (11, [.ref a0, .ref a1, .ref a2, .int 0, .int 0])), (mo, .inr (21, [.ref s0, .int 0])), (s0, .inr (20, [.ref l0, .ref l1, .ref l2, .ref l3, .ref l4, .ref l5, .ref l6, .ref l7, .ref l8, .int 10, .int 100, .int 50, .int 0, .int 0])), (l0, .inr (5, [.int 0, .ref (E 0), .int 0]))]) (hS : va_S (fun q : Nat => s.heap.size ≤ q) s.heap H locs) (hl : lv_has ls 9 [(0, .ref b), (1, .ref x), (2, .ref mo), (3, .ref oA), (4, .ref oD), (5, .int 0)]) : W p l e room_1 s m #[Value.ref b] below meth c H locs 76 1481 (lw_Z below #[Value.ref b] s) (F0 m 1233 ls []) := by
  obtain ⟨hx, hb, hr, hml, hown, hts, hX, hbl, hlocks, hgv⟩ := id C0
  have hA : ∀ q : Nat, s.heap.size ≤ q → (fun q : Nat => s.heap.size ≤ q) q := fun _ h => h
  have hbA : ¬ (fun q : Nat => s.heap.size ≤ q) b := Nat.not_le.mpr hbl
  have hown : s.vm.findClass RL = some m.cls := hown
  have htl : ∀ w ∈ wsL_law, w.before #[Value.ref b] s = true := fun w h => hts w (wsL_law_in w h)
  refine lv_aload_n hx hb dL_law_1233 rfl (lv_at hl 1 rfl) ?_
  refine lv_aload_n hx hb dL_law_1234 rfl (lv_at hl 0 rfl) ?_
  refine lv_iload hx hb dL_law_1235 (lv_at hl 5 rfl) ?_
  refine lv_iconst (v := 1) hx hb dL_law_1237 (by decide) ?_
  refine lv_iadd hx hb dL_law_1238 ?_
  refine lv_topi (fun z_1 ez_1 => ?_)
  obtain rfl : z_1 = 1 := ez_1.trans (by decide)
  refine va_sld hx hb hX hbl hbA hS (by unfold vp_in; decide) dL_law_1239 ?_
  refine lv_topi (fun z_2 ez_2 => ?_)
  obtain rfl : sv1 = z_2 := hv1.trans ez_2.symm
  refine lv_aload_n hx hb dL_law_1240 rfl (lv_at hl 3 rfl) ?_
  have hPc := hP.sub (ws' := [(x, .inr (14, [.ref now, .ref fc])), (now, .inr (13, [.ref ro, .ref hto, .ref de, .ref cr, .ref co, .ref sh, .ref eo, .int 0, .int 0, .int 10, .int 100, .int 50, .int 0, .int 50])), (ro, .inr (11, [.ref a0, .ref a1, .ref a2, .int 0, .int 0]))]) [0, 1, 2] rfl
  have hDc := hD.sub (ws' := [(x, .inr (14, [.ref now, .ref fc])), (now, .inr (13, [.ref ro, .ref hto, .ref de, .ref cr, .ref co, .ref sh, .ref eo, .int 0, .int 0, .int 10, .int 100, .int 50, .int 0, .int 50])), (ro, .inr (11, [.ref a0, .ref a1, .ref a2, .int 0, .int 0]))]) [0, 1, 2] (by decide) rfl
  have hKc := hK.sub (tys' := []) [] rfl
  have hFc := va_free (wc := [(x, .inr (14, [.ref now, .ref fc])), (now, .inr (13, [.ref ro, .ref hto, .ref de, .ref cr, .ref co, .ref sh, .ref eo, .int 0, .int 0, .int 10, .int 100, .int 50, .int 0, .int 50])), (ro, .inr (11, [.ref a0, .ref a1, .ref a2, .int 0, .int 0]))]) hD hS hA [0, 1, 2] rfl
  refine vx_calli (vx_runSX (As := [.ref x, .int sv1, .ref oA]) (rest := []) ⟨hx, hb, hml, hown, htl⟩ (c_w_carbon l hst dC dI E x now fc ro hto de cr co sh eo a0 a1 a2 sv1 oA H.size) (vx_cwSW 3 htl gL_law_L_carbon rfl rfl rfl (by decide +kernel) ⟨(Nat.le_of_ble_eq_true rfl), (Nat.le_of_ble_eq_true rfl)⟩) ⟨pre_blind, pre_call hPc hDc hKc hFc hE hZ hS⟩ rfl rfl hl.1 rfl (lv_room (Nat.le_of_ble_eq_true rfl)) dL_law_1241 ⟨(Nat.le_of_ble_eq_true rfl), (Nat.le_of_ble_eq_true rfl)⟩) hS (fun q _ h => hFc q h) hFc (fun q _ h => hFc q h) (fun E9 ce q9 u t H1 locs1 ht hvm hw hB hz1 hk1 hS hc9 hv9 hf9 => hw.elim) (fun r u t H1 locs1 ht hvm hw hB hz1 hk1 hS => ?_)
  have hw9 : r = 1 := hw
  rw [hw9]
  obtain ⟨hP, hD, hK⟩ := pst_drop (wc := [(x, .inr (14, [.ref now, .ref fc])), (now, .inr (13, [.ref ro, .ref hto, .ref de, .ref cr, .ref co, .ref sh, .ref eo, .int 0, .int 0, .int 10, .int 100, .int 50, .int 0, .int 50])), (ro, .inr (11, [.ref a0, .ref a1, .ref a2, .int 0, .int 0]))]) (wr := [(mo, .inr (21, [.ref s0, .int 0])), (s0, .inr (20, [.ref l0, .ref l1, .ref l2, .ref l3, .ref l4, .ref l5, .ref l6, .ref l7, .ref l8, .int 10, .int 100, .int 50, .int 0, .int 0])), (l0, .inr (5, [.int 0, .ref (E 0), .int 0]))]) (tr := []) hP hD hK [0, 1, 2] [3, 4, 5] [] rfl rfl rfl (by decide) (by decide) hk1 hFc
  generalize H1 = H at hP hS ⊢
  have hP : va_P (dC, dI) vwCl [(mo, .inr (21, [.ref s0, .int 0])), (s0, .inr (20, [.ref l0, .ref l1, .ref l2, .ref l3, .ref l4, .ref l5, .ref l6, .ref l7, .ref l8, .int 10, .int 100, .int 50, .int 0, .int 0])), (l0, .inr (5, [.int 0, .ref (E 0), .int 0]))] H := hP
  have hD : va_D (fun q : Nat => s.heap.size ≤ q) [(mo, .inr (21, [.ref s0, .int 0])), (s0, .inr (20, [.ref l0, .ref l1, .ref l2, .ref l3, .ref l4, .ref l5, .ref l6, .ref l7, .ref l8, .int 10, .int 100, .int 50, .int 0, .int 0])), (l0, .inr (5, [.int 0, .ref (E 0), .int 0]))] := hD
  have hK : va_K (dC, dI) vwCl [] s := hK
  refine W.widen (k := 77) (n := 1487) (Nat.le_of_ble_eq_true rfl) (Nat.le_of_ble_eq_true rfl) ?_
  refine lv_istore (lv' := [(6, .int 1), (0, .ref b), (1, .ref x), (2, .ref mo), (3, .ref oA), (4, .ref oD), (5, .int 0)]) hx hb dL_law_1244 hl (by decide) rfl (fun ls hl => ?_)
  refine lv_aload_n hx hb dL_law_1246 rfl (lv_at hl 3 rfl) ?_
  refine lv_aload_n hx hb dL_law_1247 rfl (lv_at hl 1 rfl) ?_
  refine lv_iload hx hb dL_law_1248 (lv_at hl 6 rfl) ?_
  refine lv_iconst (v := 1) hx hb dL_law_1250 (by decide) ?_
  refine lv_iadd hx hb dL_law_1251 ?_
  refine lv_topi (fun z_4 ez_4 => ?_)
  obtain rfl : z_4 = 1 := ez_4.trans (by decide)
  refine va_sld hx hb hX hbl hbA hS (by unfold vp_in; decide) dL_law_1252 ?_
  refine lv_topi (fun z_5 ez_5 => ?_)
  obtain rfl : sv1 = z_5 := hv1.trans ez_5.symm
  have hPc := hP.sub (ws' := [(mo, .inr (21, [.ref s0, .int 0])), (s0, .inr (20, [.ref l0, .ref l1, .ref l2, .ref l3, .ref l4, .ref l5, .ref l6, .ref l7, .ref l8, .int 10, .int 100, .int 50, .int 0, .int 0])), (l0, .inr (5, [.int 0, .ref (E 0), .int 0]))]) [0, 1, 2] rfl
  have hDc := hD.sub (ws' := [(mo, .inr (21, [.ref s0, .int 0])), (s0, .inr (20, [.ref l0, .ref l1, .ref l2, .ref l3, .ref l4, .ref l5, .ref l6, .ref l7, .ref l8, .int 10, .int 100, .int 50, .int 0, .int 0])), (l0, .inr (5, [.int 0, .ref (E 0), .int 0]))]) [0, 1, 2] (by decide) rfl
  have hKc := hK.sub (tys' := []) [] rfl
  have hFc := va_free (wc := [(mo, .inr (21, [.ref s0, .int 0])), (s0, .inr (20, [.ref l0, .ref l1, .ref l2, .ref l3, .ref l4, .ref l5, .ref l6, .ref l7, .ref l8, .int 10, .int 100, .int 50, .int 0, .int 0])), (l0, .inr (5, [.int 0, .ref (E 0), .int 0]))]) hD hS hA [0, 1, 2] rfl
  refine va_calli (va_runV (As := [.int sv1]) (rest := []) ⟨hx, hb, hml, hown, htl⟩ (c_rm_carbon l dC dI E mo s0 l0 l1 l2 l3 l4 l5 l6 l7 l8 0 sv1 H.size) (cwV 1 htl gL_law_X15_carbon rfl rfl rfl (by decide +kernel) ⟨(Nat.le_of_ble_eq_true rfl), (Nat.le_of_ble_eq_true rfl)⟩) ⟨pre_blind, va_recv hKc hPc (ci := 21) (q0 := 0) rfl rfl, pre_call hPc hDc hKc hFc hE hZ hS⟩ rfl rfl hl.1 rfl (lv_room (Nat.le_of_ble_eq_true rfl)) dL_law_1253 ⟨(Nat.le_of_ble_eq_true rfl), (Nat.le_of_ble_eq_true rfl)⟩) hS (fun q _ h => hFc q h) hFc (fun r u t H1 locs1 ht hvm hw hB hz1 hk1 hS => ?_)
  have hw9 : r = 0 := hw
  rw [hw9]
  obtain ⟨hP, hD, hK⟩ := pst_join (wc := [(mo, .inr (21, [.ref s0, .int 0])), (s0, .inr (20, [.ref l0, .ref l1, .ref l2, .ref l3, .ref l4, .ref l5, .ref l6, .ref l7, .ref l8, .int 10, .int 100, .int 50, .int 0, .int 0])), (l0, .inr (5, [.int 0, .ref (E 0), .int 0]))]) (wr := []) (w1 := [(mo, .inr (21, [.ref s0, .int 1]))]) (tr := []) (t1 := []) hP hD hK [0, 1, 2] [] [] rfl rfl rfl (by decide) (by decide) hk1 hFc ht hvm hB
  generalize H1 = H at hP hS ⊢
  have hP : va_P (dC, dI) vwCl [(mo, .inr (21, [.ref s0, .int 1]))] H := hP
  have hD : va_D (fun q : Nat => s.heap.size ≤ q) [(mo, .inr (21, [.ref s0, .int 1]))] := hD
  have hK : va_K (dC, dI) vwCl [] s := hK
  refine W.widen (k := 77) (n := 1487) (Nat.le_of_ble_eq_true rfl) (Nat.le_of_ble_eq_true rfl) ?_
  refine lv_istore (lv' := [(7, .int 0), (6, .int 1), (0, .ref b), (1, .ref x), (2, .ref mo), (3, .ref oA), (4, .ref oD), (5, .int 0)]) hx hb dL_law_1256 hl (by decide) rfl (fun ls hl => ?_)
  refine lv_aload_n hx hb dL_law_1258 rfl (lv_at hl 4 rfl) ?_
  have hPc := hP.sub (ws' := [(mo, .inr (21, [.ref s0, .int 1]))]) [0] rfl
  have hDc := hD.sub (ws' := [(mo, .inr (21, [.ref s0, .int 1]))]) [0] (by decide) rfl
  have hKc := hK.sub (tys' := []) [] rfl
  have hFc := va_free (wc := [(mo, .inr (21, [.ref s0, .int 1]))]) hD hS hA [0] rfl
  refine va_calli (va_runV (As := []) (rest := []) ⟨hx, hb, hml, hown, htl⟩ (c_rm_thrown l dC dI E mo s0 1 H.size) (cwV 0 htl gL_law_X15_thrown rfl rfl rfl (by decide +kernel) ⟨(Nat.le_of_ble_eq_true rfl), (Nat.le_of_ble_eq_true rfl)⟩) ⟨pre_blind, va_recv hKc hPc (ci := 21) (q0 := 0) rfl rfl, pre_call hPc hDc hKc hFc hE hZ hS⟩ rfl rfl hl.1 rfl (lv_room (Nat.le_of_ble_eq_true rfl)) dL_law_1259 ⟨(Nat.le_of_ble_eq_true rfl), (Nat.le_of_ble_eq_true rfl)⟩) hS (fun q _ h => hFc q h) hFc (fun r u t H1 locs1 ht hvm hw hB hz1 hk1 hS => ?_)
  have hw9 : r = 1 := hw
  rw [hw9]
  obtain ⟨hP, hD, hK⟩ := pst_join (wc := [(mo, .inr (21, [.ref s0, .int 1]))]) (wr := []) (w1 := [(mo, .inr (21, [.ref s0, .int 1]))]) (tr := []) (t1 := []) hP hD hK [0] [] [] rfl rfl rfl (by decide) (by decide) hk1 hFc ht hvm hB
  generalize H1 = H at hP hS ⊢
  have hP : va_P (dC, dI) vwCl [(mo, .inr (21, [.ref s0, .int 1]))] H := hP
  have hD : va_D (fun q : Nat => s.heap.size ≤ q) [(mo, .inr (21, [.ref s0, .int 1]))] := hD
  have hK : va_K (dC, dI) vwCl [] s := hK
  refine W.widen (k := 77) (n := 1487) (Nat.le_of_ble_eq_true rfl) (Nat.le_of_ble_eq_true rfl) ?_
  refine lv_iload hx hb dL_law_1262 (lv_at hl 1 rfl) ?_
  refine lv_icmp_eq (tgt := 1269) hx hb dL_law_1264 (by decide) (fun _ => ?_) (fun c9 => absurd (by decide) c9)
  refine lv_iload hx hb dL_law_1269 (lv_at hl 1 rfl) ?_
  refine lv_if_ne (tgt := 1286) hx hb dL_law_1271 (by decide) (fun _ => ?_) (fun c9 => absurd c9 (by decide))
  refine lv_goto (tgt := 1756) hx hb dL_law_1286 (by decide) ?_
  exact law_end C0 hS (lv_sub hl [2, 7] rfl) (Nat.le_of_ble_eq_true rfl) (Nat.le_of_ble_eq_true rfl)

set_option maxHeartbeats 4000000 in
set_option maxRecDepth 100000 in
theorem law_water {p : Program} {l : Launch} {e : Env} {s : State} {m : MethodId} {below : List Frame} {meth : Method} {c : Code} {b : Nat} {xs : Nat → Int32} {dC : Nat → ClassId} {dI : Nat → Nat → Nat} {E : Nat → Nat} {sv1 : Int32} {sv2 : Int32} {sv3 : Int32} {sv4 : Int32} {sk1 : Int32} {sk2 : Int32} {x : Nat} {now : Nat} {fc : Nat} {ro : Nat} {hto : Nat} {de : Nat} {cr : Nat} {co : Nat} {sh : Nat} {eo : Nat} {mo : Nat} {s0 : Nat} {l0 : Nat} {l1 : Nat} {l2 : Nat} {l3 : Nat} {l4 : Nat} {l5 : Nat} {l6 : Nat} {l7 : Nat} {l8 : Nat} {oA : Nat} {oD : Nat} (hst : l.stackTraces = false) (C0 : lw_At p s m meth c b 5 xs) (hE : ev E s) (hZ : es E (fun q : Nat => s.heap.size ≤ q) s s.heap) (hv1 : sv1 = xs (1 : Int32).toNatClampNeg) (hv2 : sv2 = xs (2 : Int32).toNatClampNeg) (hv3 : sv3 = xs (3 : Int32).toNatClampNeg) (hv4 : sv4 = xs (4 : Int32).toNatClampNeg) (hch1 : sk1 = (sv1.toUInt32 % 65536).toInt32) (hch2 : sk2 = (sv2.toUInt32 % 65536).toInt32) {H : Heap} {locs : List Loc} {ls : Array Slot} (hK : va_K (dC, dI) vwCl [] s) (hP : va_P (dC, dI) vwCl [(x, .inr (14, [.ref now, .ref fc])), (now, .inr (13, [.ref ro, .ref hto, .ref de, .ref cr, .ref co, .ref sh, .ref eo, .int 0, .int 0, .int 10, .int 100, .int 50, .int 0, .int 50])), (mo, .inr (21, [.ref s0, .int 0])), (s0, .inr (20, [.ref l0, .ref l1, .ref l2, .ref l3, .ref l4, .ref l5, .ref l6, .ref l7, .ref l8, .int 10, .int 100, .int 50, .int 0, .int 0]))] H) (hD : va_D (fun q : Nat => s.heap.size ≤ q) [(x, .inr (14, [.ref now, .ref fc])), (now, .inr (13, [.ref ro, .ref hto, .ref de, .ref cr, .ref co, .ref sh, .ref eo, .int 0, .int 0, .int 10, .int 100, .int 50, .int 0, .int 50])), (mo, .inr (21, [.ref s0, .int 0])), (s0, .inr (20, [.ref l0, .ref l1, .ref l2, .ref l3, .ref l4, .ref l5, .ref l6, .ref l7, .ref l8, .int 10, .int 100, .int 50, .int 0, .int 0]))]) (hS : va_S (fun q : Nat => s.heap.size ≤ q) s.heap H locs) (hl : lv_has ls 9 [(0, .ref b), (1, .ref x), (2, .ref mo), (3, .ref oA), (4, .ref oD), (5, .int 0)]) : W p l e room_1 s m #[Value.ref b] below meth c H locs 76 1481 (lw_Z below #[Value.ref b] s) (F0 m 1289 ls []) := by
  obtain ⟨hx, hb, hr, hml, hown, hts, hX, hbl, hlocks, hgv⟩ := id C0
  have hA : ∀ q : Nat, s.heap.size ≤ q → (fun q : Nat => s.heap.size ≤ q) q := fun _ h => h
  have hbA : ¬ (fun q : Nat => s.heap.size ≤ q) b := Nat.not_le.mpr hbl
  have hown : s.vm.findClass RL = some m.cls := hown
  have htl : ∀ w ∈ wsL_law, w.before #[Value.ref b] s = true := fun w h => hts w (wsL_law_in w h)
  refine lv_aload_n hx hb dL_law_1289 rfl (lv_at hl 1 rfl) ?_
  have hPc := hP.sub (ws' := [(x, .inr (14, [.ref now, .ref fc])), (now, .inr (13, [.ref ro, .ref hto, .ref de, .ref cr, .ref co, .ref sh, .ref eo, .int 0, .int 0, .int 10, .int 100, .int 50, .int 0, .int 50]))]) [0, 1] rfl
  have hDc := hD.sub (ws' := [(x, .inr (14, [.ref now, .ref fc])), (now, .inr (13, [.ref ro, .ref hto, .ref de, .ref cr, .ref co, .ref sh, .ref eo, .int 0, .int 0, .int 10, .int 100, .int 50, .int 0, .int 50]))]) [0, 1] (by decide) rfl
  have hKc := hK.sub (tys' := []) [] rfl
  have hFc := va_free (wc := [(x, .inr (14, [.ref now, .ref fc])), (now, .inr (13, [.ref ro, .ref hto, .ref de, .ref cr, .ref co, .ref sh, .ref eo, .int 0, .int 0, .int 10, .int 100, .int 50, .int 0, .int 50]))]) hD hS hA [0, 1] rfl
  refine va_calli (va_runV (As := []) (rest := []) ⟨hx, hb, hml, hown, htl⟩ (c_cx_water l dC dI E x now fc ro hto de cr co sh eo H.size) (cwV 0 htl gL_law_X8_water rfl rfl rfl (by decide +kernel) ⟨(Nat.le_of_ble_eq_true rfl), (Nat.le_of_ble_eq_true rfl)⟩) ⟨pre_blind, va_recv hKc hPc (ci := 14) (q0 := 0) rfl rfl, pre_call hPc hDc hKc hFc hE hZ hS⟩ rfl rfl hl.1 rfl (lv_room (Nat.le_of_ble_eq_true rfl)) dL_law_1290 ⟨(Nat.le_of_ble_eq_true rfl), (Nat.le_of_ble_eq_true rfl)⟩) hS (fun q _ h => hFc q h) hFc (fun r u t H1 locs1 ht hvm hw hB hz1 hk1 hS => ?_)
  have hw9 : r = 50 := hw
  rw [hw9]
  obtain ⟨hP, hD, hK⟩ := pst_drop (wc := [(x, .inr (14, [.ref now, .ref fc])), (now, .inr (13, [.ref ro, .ref hto, .ref de, .ref cr, .ref co, .ref sh, .ref eo, .int 0, .int 0, .int 10, .int 100, .int 50, .int 0, .int 50]))]) (wr := [(mo, .inr (21, [.ref s0, .int 0])), (s0, .inr (20, [.ref l0, .ref l1, .ref l2, .ref l3, .ref l4, .ref l5, .ref l6, .ref l7, .ref l8, .int 10, .int 100, .int 50, .int 0, .int 0]))]) (tr := []) hP hD hK [0, 1] [2, 3] [] rfl rfl rfl (by decide) (by decide) hk1 hFc
  generalize H1 = H at hP hS ⊢
  have hP : va_P (dC, dI) vwCl [(mo, .inr (21, [.ref s0, .int 0])), (s0, .inr (20, [.ref l0, .ref l1, .ref l2, .ref l3, .ref l4, .ref l5, .ref l6, .ref l7, .ref l8, .int 10, .int 100, .int 50, .int 0, .int 0]))] H := hP
  have hD : va_D (fun q : Nat => s.heap.size ≤ q) [(mo, .inr (21, [.ref s0, .int 0])), (s0, .inr (20, [.ref l0, .ref l1, .ref l2, .ref l3, .ref l4, .ref l5, .ref l6, .ref l7, .ref l8, .int 10, .int 100, .int 50, .int 0, .int 0]))] := hD
  have hK : va_K (dC, dI) vwCl [] s := hK
  refine W.widen (k := 76) (n := 1481) (Nat.le_of_ble_eq_true rfl) (Nat.le_of_ble_eq_true rfl) ?_
  refine lv_aload_n hx hb dL_law_1293 rfl (lv_at hl 2 rfl) ?_
  have hPc := hP.sub (ws' := [(mo, .inr (21, [.ref s0, .int 0])), (s0, .inr (20, [.ref l0, .ref l1, .ref l2, .ref l3, .ref l4, .ref l5, .ref l6, .ref l7, .ref l8, .int 10, .int 100, .int 50, .int 0, .int 0]))]) [0, 1] rfl
  have hDc := hD.sub (ws' := [(mo, .inr (21, [.ref s0, .int 0])), (s0, .inr (20, [.ref l0, .ref l1, .ref l2, .ref l3, .ref l4, .ref l5, .ref l6, .ref l7, .ref l8, .int 10, .int 100, .int 50, .int 0, .int 0]))]) [0, 1] (by decide) rfl
  have hKc := hK.sub (tys' := []) [] rfl
  have hFc := va_free (wc := [(mo, .inr (21, [.ref s0, .int 0])), (s0, .inr (20, [.ref l0, .ref l1, .ref l2, .ref l3, .ref l4, .ref l5, .ref l6, .ref l7, .ref l8, .int 10, .int 100, .int 50, .int 0, .int 0]))]) hD hS hA [0, 1] rfl
  refine va_calli (va_runV (As := []) (rest := [.int 50]) ⟨hx, hb, hml, hown, htl⟩ (c_rm_water l dC dI E mo s0 l0 l1 l2 l3 l4 l5 l6 l7 l8 0 H.size) (cwV 0 htl gL_law_X15_water rfl rfl rfl (by decide +kernel) ⟨(Nat.le_of_ble_eq_true rfl), (Nat.le_of_ble_eq_true rfl)⟩) ⟨pre_blind, va_recv hKc hPc (ci := 21) (q0 := 0) rfl rfl, pre_call hPc hDc hKc hFc hE hZ hS⟩ rfl rfl hl.1 rfl (lv_room (Nat.le_of_ble_eq_true rfl)) dL_law_1294 ⟨(Nat.le_of_ble_eq_true rfl), (Nat.le_of_ble_eq_true rfl)⟩) hS (fun q _ h => hFc q h) hFc (fun r u t H1 locs1 ht hvm hw hB hz1 hk1 hS => ?_)
  have hw9 : r = 50 := hw
  rw [hw9]
  obtain ⟨hP, hD, hK⟩ := pst_drop (wc := [(mo, .inr (21, [.ref s0, .int 0])), (s0, .inr (20, [.ref l0, .ref l1, .ref l2, .ref l3, .ref l4, .ref l5, .ref l6, .ref l7, .ref l8, .int 10, .int 100, .int 50, .int 0, .int 0]))]) (wr := []) (tr := []) hP hD hK [0, 1] [] [] rfl rfl rfl (by decide) (by decide) hk1 hFc
  generalize H1 = H at hP hS ⊢
  have hP : va_P (dC, dI) vwCl [] H := hP
  have hD : va_D (fun q : Nat => s.heap.size ≤ q) [] := hD
  have hK : va_K (dC, dI) vwCl [] s := hK
  refine W.widen (k := 76) (n := 1481) (Nat.le_of_ble_eq_true rfl) (Nat.le_of_ble_eq_true rfl) ?_
  refine lv_icmp_eq (tgt := 1756) hx hb dL_law_1297 (by decide) (fun _ => ?_) (fun c9 => absurd (by decide) c9)
  exact law_end C0 hS (lv_sub hl [0, 5] rfl) (Nat.le_of_ble_eq_true rfl) (Nat.le_of_ble_eq_true rfl)

set_option maxHeartbeats 4000000 in
set_option maxRecDepth 100000 in
theorem law_battery {p : Program} {l : Launch} {e : Env} {s : State} {m : MethodId} {below : List Frame} {meth : Method} {c : Code} {b : Nat} {xs : Nat → Int32} {dC : Nat → ClassId} {dI : Nat → Nat → Nat} {E : Nat → Nat} {sv1 : Int32} {sv2 : Int32} {sv3 : Int32} {sv4 : Int32} {sk1 : Int32} {sk2 : Int32} {x : Nat} {now : Nat} {fc : Nat} {ro : Nat} {hto : Nat} {de : Nat} {cr : Nat} {co : Nat} {sh : Nat} {eo : Nat} {mo : Nat} {s0 : Nat} {l0 : Nat} {l1 : Nat} {l2 : Nat} {l3 : Nat} {l4 : Nat} {l5 : Nat} {l6 : Nat} {l7 : Nat} {l8 : Nat} {oA : Nat} {oD : Nat} (hst : l.stackTraces = false) (C0 : lw_At p s m meth c b 5 xs) (hE : ev E s) (hZ : es E (fun q : Nat => s.heap.size ≤ q) s s.heap) (hv1 : sv1 = xs (1 : Int32).toNatClampNeg) (hv2 : sv2 = xs (2 : Int32).toNatClampNeg) (hv3 : sv3 = xs (3 : Int32).toNatClampNeg) (hv4 : sv4 = xs (4 : Int32).toNatClampNeg) (hch1 : sk1 = (sv1.toUInt32 % 65536).toInt32) (hch2 : sk2 = (sv2.toUInt32 % 65536).toInt32) {H : Heap} {locs : List Loc} {ls : Array Slot} (hK : va_K (dC, dI) vwCl [] s) (hP : va_P (dC, dI) vwCl [(x, .inr (14, [.ref now, .ref fc])), (now, .inr (13, [.ref ro, .ref hto, .ref de, .ref cr, .ref co, .ref sh, .ref eo, .int 0, .int 0, .int 10, .int 100, .int 50, .int 0, .int 50])), (mo, .inr (21, [.ref s0, .int 0])), (s0, .inr (20, [.ref l0, .ref l1, .ref l2, .ref l3, .ref l4, .ref l5, .ref l6, .ref l7, .ref l8, .int 10, .int 100, .int 50, .int 0, .int 0]))] H) (hD : va_D (fun q : Nat => s.heap.size ≤ q) [(x, .inr (14, [.ref now, .ref fc])), (now, .inr (13, [.ref ro, .ref hto, .ref de, .ref cr, .ref co, .ref sh, .ref eo, .int 0, .int 0, .int 10, .int 100, .int 50, .int 0, .int 50])), (mo, .inr (21, [.ref s0, .int 0])), (s0, .inr (20, [.ref l0, .ref l1, .ref l2, .ref l3, .ref l4, .ref l5, .ref l6, .ref l7, .ref l8, .int 10, .int 100, .int 50, .int 0, .int 0]))]) (hS : va_S (fun q : Nat => s.heap.size ≤ q) s.heap H locs) (hl : lv_has ls 9 [(0, .ref b), (1, .ref x), (2, .ref mo), (3, .ref oA), (4, .ref oD), (5, .int 0)]) : W p l e room_1 s m #[Value.ref b] below meth c H locs 76 1481 (lw_Z below #[Value.ref b] s) (F0 m 1302 ls []) := by
  obtain ⟨hx, hb, hr, hml, hown, hts, hX, hbl, hlocks, hgv⟩ := id C0
  have hA : ∀ q : Nat, s.heap.size ≤ q → (fun q : Nat => s.heap.size ≤ q) q := fun _ h => h
  have hbA : ¬ (fun q : Nat => s.heap.size ≤ q) b := Nat.not_le.mpr hbl
  have hown : s.vm.findClass RL = some m.cls := hown
  have htl : ∀ w ∈ wsL_law, w.before #[Value.ref b] s = true := fun w h => hts w (wsL_law_in w h)
  refine lv_aload_n hx hb dL_law_1302 rfl (lv_at hl 1 rfl) ?_
  have hPc := hP.sub (ws' := [(x, .inr (14, [.ref now, .ref fc])), (now, .inr (13, [.ref ro, .ref hto, .ref de, .ref cr, .ref co, .ref sh, .ref eo, .int 0, .int 0, .int 10, .int 100, .int 50, .int 0, .int 50]))]) [0, 1] rfl
  have hDc := hD.sub (ws' := [(x, .inr (14, [.ref now, .ref fc])), (now, .inr (13, [.ref ro, .ref hto, .ref de, .ref cr, .ref co, .ref sh, .ref eo, .int 0, .int 0, .int 10, .int 100, .int 50, .int 0, .int 50]))]) [0, 1] (by decide) rfl
  have hKc := hK.sub (tys' := []) [] rfl
  have hFc := va_free (wc := [(x, .inr (14, [.ref now, .ref fc])), (now, .inr (13, [.ref ro, .ref hto, .ref de, .ref cr, .ref co, .ref sh, .ref eo, .int 0, .int 0, .int 10, .int 100, .int 50, .int 0, .int 50]))]) hD hS hA [0, 1] rfl
  refine va_calli (va_runV (As := []) (rest := []) ⟨hx, hb, hml, hown, htl⟩ (c_cx_battery l dC dI E x now fc ro hto de cr co sh eo H.size) (cwV 0 htl gL_law_X8_battery rfl rfl rfl (by decide +kernel) ⟨(Nat.le_of_ble_eq_true rfl), (Nat.le_of_ble_eq_true rfl)⟩) ⟨pre_blind, va_recv hKc hPc (ci := 14) (q0 := 0) rfl rfl, pre_call hPc hDc hKc hFc hE hZ hS⟩ rfl rfl hl.1 rfl (lv_room (Nat.le_of_ble_eq_true rfl)) dL_law_1303 ⟨(Nat.le_of_ble_eq_true rfl), (Nat.le_of_ble_eq_true rfl)⟩) hS (fun q _ h => hFc q h) hFc (fun r u t H1 locs1 ht hvm hw hB hz1 hk1 hS => ?_)
  have hw9 : r = 100 := hw
  rw [hw9]
  obtain ⟨hP, hD, hK⟩ := pst_drop (wc := [(x, .inr (14, [.ref now, .ref fc])), (now, .inr (13, [.ref ro, .ref hto, .ref de, .ref cr, .ref co, .ref sh, .ref eo, .int 0, .int 0, .int 10, .int 100, .int 50, .int 0, .int 50]))]) (wr := [(mo, .inr (21, [.ref s0, .int 0])), (s0, .inr (20, [.ref l0, .ref l1, .ref l2, .ref l3, .ref l4, .ref l5, .ref l6, .ref l7, .ref l8, .int 10, .int 100, .int 50, .int 0, .int 0]))]) (tr := []) hP hD hK [0, 1] [2, 3] [] rfl rfl rfl (by decide) (by decide) hk1 hFc
  generalize H1 = H at hP hS ⊢
  have hP : va_P (dC, dI) vwCl [(mo, .inr (21, [.ref s0, .int 0])), (s0, .inr (20, [.ref l0, .ref l1, .ref l2, .ref l3, .ref l4, .ref l5, .ref l6, .ref l7, .ref l8, .int 10, .int 100, .int 50, .int 0, .int 0]))] H := hP
  have hD : va_D (fun q : Nat => s.heap.size ≤ q) [(mo, .inr (21, [.ref s0, .int 0])), (s0, .inr (20, [.ref l0, .ref l1, .ref l2, .ref l3, .ref l4, .ref l5, .ref l6, .ref l7, .ref l8, .int 10, .int 100, .int 50, .int 0, .int 0]))] := hD
  have hK : va_K (dC, dI) vwCl [] s := hK
  refine W.widen (k := 76) (n := 1481) (Nat.le_of_ble_eq_true rfl) (Nat.le_of_ble_eq_true rfl) ?_
  refine lv_aload_n hx hb dL_law_1306 rfl (lv_at hl 2 rfl) ?_
  have hPc := hP.sub (ws' := [(mo, .inr (21, [.ref s0, .int 0])), (s0, .inr (20, [.ref l0, .ref l1, .ref l2, .ref l3, .ref l4, .ref l5, .ref l6, .ref l7, .ref l8, .int 10, .int 100, .int 50, .int 0, .int 0]))]) [0, 1] rfl
  have hDc := hD.sub (ws' := [(mo, .inr (21, [.ref s0, .int 0])), (s0, .inr (20, [.ref l0, .ref l1, .ref l2, .ref l3, .ref l4, .ref l5, .ref l6, .ref l7, .ref l8, .int 10, .int 100, .int 50, .int 0, .int 0]))]) [0, 1] (by decide) rfl
  have hKc := hK.sub (tys' := []) [] rfl
  have hFc := va_free (wc := [(mo, .inr (21, [.ref s0, .int 0])), (s0, .inr (20, [.ref l0, .ref l1, .ref l2, .ref l3, .ref l4, .ref l5, .ref l6, .ref l7, .ref l8, .int 10, .int 100, .int 50, .int 0, .int 0]))]) hD hS hA [0, 1] rfl
  refine va_calli (va_runV (As := []) (rest := [.int 100]) ⟨hx, hb, hml, hown, htl⟩ (c_rm_battery l dC dI E mo s0 l0 l1 l2 l3 l4 l5 l6 l7 l8 0 H.size) (cwV 0 htl gL_law_X15_battery rfl rfl rfl (by decide +kernel) ⟨(Nat.le_of_ble_eq_true rfl), (Nat.le_of_ble_eq_true rfl)⟩) ⟨pre_blind, va_recv hKc hPc (ci := 21) (q0 := 0) rfl rfl, pre_call hPc hDc hKc hFc hE hZ hS⟩ rfl rfl hl.1 rfl (lv_room (Nat.le_of_ble_eq_true rfl)) dL_law_1307 ⟨(Nat.le_of_ble_eq_true rfl), (Nat.le_of_ble_eq_true rfl)⟩) hS (fun q _ h => hFc q h) hFc (fun r u t H1 locs1 ht hvm hw hB hz1 hk1 hS => ?_)
  have hw9 : r = 100 := hw
  rw [hw9]
  obtain ⟨hP, hD, hK⟩ := pst_drop (wc := [(mo, .inr (21, [.ref s0, .int 0])), (s0, .inr (20, [.ref l0, .ref l1, .ref l2, .ref l3, .ref l4, .ref l5, .ref l6, .ref l7, .ref l8, .int 10, .int 100, .int 50, .int 0, .int 0]))]) (wr := []) (tr := []) hP hD hK [0, 1] [] [] rfl rfl rfl (by decide) (by decide) hk1 hFc
  generalize H1 = H at hP hS ⊢
  have hP : va_P (dC, dI) vwCl [] H := hP
  have hD : va_D (fun q : Nat => s.heap.size ≤ q) [] := hD
  have hK : va_K (dC, dI) vwCl [] s := hK
  refine W.widen (k := 76) (n := 1481) (Nat.le_of_ble_eq_true rfl) (Nat.le_of_ble_eq_true rfl) ?_
  refine lv_icmp_eq (tgt := 1756) hx hb dL_law_1310 (by decide) (fun _ => ?_) (fun c9 => absurd (by decide) c9)
  exact law_end C0 hS (lv_sub hl [0, 5] rfl) (Nat.le_of_ble_eq_true rfl) (Nat.le_of_ble_eq_true rfl)

set_option maxHeartbeats 4000000 in
set_option maxRecDepth 100000 in
theorem law_whereIs {p : Program} {l : Launch} {e : Env} {s : State} {m : MethodId} {below : List Frame} {meth : Method} {c : Code} {b : Nat} {xs : Nat → Int32} {dC : Nat → ClassId} {dI : Nat → Nat → Nat} {E : Nat → Nat} {sv1 : Int32} {sv2 : Int32} {sv3 : Int32} {sv4 : Int32} {sk1 : Int32} {sk2 : Int32} {x : Nat} {now : Nat} {fc : Nat} {ro : Nat} {hto : Nat} {de : Nat} {cr : Nat} {co : Nat} {sh : Nat} {eo : Nat} {w0 : Nat} {w1 : Nat} {w2 : Nat} {w3 : Nat} {mo : Nat} {s0 : Nat} {l0 : Nat} {l1 : Nat} {l2 : Nat} {l3 : Nat} {l4 : Nat} {l5 : Nat} {l6 : Nat} {l7 : Nat} {l8 : Nat} {oA : Nat} {oD : Nat} (hst : l.stackTraces = false) (C0 : lw_At p s m meth c b 5 xs) (hE : ev E s) (hZ : es E (fun q : Nat => s.heap.size ≤ q) s s.heap) (hv1 : sv1 = xs (1 : Int32).toNatClampNeg) (hv2 : sv2 = xs (2 : Int32).toNatClampNeg) (hv3 : sv3 = xs (3 : Int32).toNatClampNeg) (hv4 : sv4 = xs (4 : Int32).toNatClampNeg) (hch1 : sk1 = (sv1.toUInt32 % 65536).toInt32) (hch2 : sk2 = (sv2.toUInt32 % 65536).toInt32) {H : Heap} {locs : List Loc} {ls : Array Slot} (hK : va_K (dC, dI) vwCl [] s) (hP : va_P (dC, dI) vwCl [(x, .inr (14, [.ref now, .ref fc])), (now, .inr (13, [.ref ro, .ref hto, .ref de, .ref cr, .ref co, .ref sh, .ref eo, .int 0, .int 0, .int 10, .int 100, .int 50, .int 0, .int 50])), (cr, .inr (7, [.ref w0, .ref w1, .ref w2, .ref w3, .int 0, .int 0])), (mo, .inr (21, [.ref s0, .int 0])), (s0, .inr (20, [.ref l0, .ref l1, .ref l2, .ref l3, .ref l4, .ref l5, .ref l6, .ref l7, .ref l8, .int 10, .int 100, .int 50, .int 0, .int 0])), (l5, .inr (5, [.int 0, .ref (E 0), .int 0]))] H) (hD : va_D (fun q : Nat => s.heap.size ≤ q) [(x, .inr (14, [.ref now, .ref fc])), (now, .inr (13, [.ref ro, .ref hto, .ref de, .ref cr, .ref co, .ref sh, .ref eo, .int 0, .int 0, .int 10, .int 100, .int 50, .int 0, .int 50])), (cr, .inr (7, [.ref w0, .ref w1, .ref w2, .ref w3, .int 0, .int 0])), (mo, .inr (21, [.ref s0, .int 0])), (s0, .inr (20, [.ref l0, .ref l1, .ref l2, .ref l3, .ref l4, .ref l5, .ref l6, .ref l7, .ref l8, .int 10, .int 100, .int 50, .int 0, .int 0])), (l5, .inr (5, [.int 0, .ref (E 0), .int 0]))]) (hS : va_S (fun q : Nat => s.heap.size ≤ q) s.heap H locs) (hl : lv_has ls 9 [(0, .ref b), (1, .ref x), (2, .ref mo), (3, .ref oA), (4, .ref oD), (5, .int 0)]) : W p l e room_1 s m #[Value.ref b] below meth c H locs 76 1481 (lw_Z below #[Value.ref b] s) (F0 m 1315 ls []) := by
  obtain ⟨hx, hb, hr, hml, hown, hts, hX, hbl, hlocks, hgv⟩ := id C0
  have hA : ∀ q : Nat, s.heap.size ≤ q → (fun q : Nat => s.heap.size ≤ q) q := fun _ h => h
  have hbA : ¬ (fun q : Nat => s.heap.size ≤ q) b := Nat.not_le.mpr hbl
  have hown : s.vm.findClass RL = some m.cls := hown
  have htl : ∀ w ∈ wsL_law, w.before #[Value.ref b] s = true := fun w h => hts w (wsL_law_in w h)
  refine lv_aload_n hx hb dL_law_1315 rfl (lv_at hl 1 rfl) ?_
  refine lv_aload_n hx hb dL_law_1316 rfl (lv_at hl 0 rfl) ?_
  refine lv_iload hx hb dL_law_1317 (lv_at hl 5 rfl) ?_
  refine lv_iconst (v := 1) hx hb dL_law_1319 (by decide) ?_
  refine lv_iadd hx hb dL_law_1320 ?_
  refine lv_topi (fun z_1 ez_1 => ?_)
  obtain rfl : z_1 = 1 := ez_1.trans (by decide)
  refine va_sld hx hb hX hbl hbA hS (by unfold vp_in; decide) dL_law_1321 ?_
  refine lv_topi (fun z_2 ez_2 => ?_)
  obtain rfl : sv1 = z_2 := hv1.trans ez_2.symm
  refine lv_aload_n hx hb dL_law_1322 rfl (lv_at hl 3 rfl) ?_
  have hPc := hP.sub (ws' := [(x, .inr (14, [.ref now, .ref fc])), (now, .inr (13, [.ref ro, .ref hto, .ref de, .ref cr, .ref co, .ref sh, .ref eo, .int 0, .int 0, .int 10, .int 100, .int 50, .int 0, .int 50])), (cr, .inr (7, [.ref w0, .ref w1, .ref w2, .ref w3, .int 0, .int 0]))]) [0, 1, 2] rfl
  have hDc := hD.sub (ws' := [(x, .inr (14, [.ref now, .ref fc])), (now, .inr (13, [.ref ro, .ref hto, .ref de, .ref cr, .ref co, .ref sh, .ref eo, .int 0, .int 0, .int 10, .int 100, .int 50, .int 0, .int 50])), (cr, .inr (7, [.ref w0, .ref w1, .ref w2, .ref w3, .int 0, .int 0]))]) [0, 1, 2] (by decide) rfl
  have hKc := hK.sub (tys' := []) [] rfl
  have hFc := va_free (wc := [(x, .inr (14, [.ref now, .ref fc])), (now, .inr (13, [.ref ro, .ref hto, .ref de, .ref cr, .ref co, .ref sh, .ref eo, .int 0, .int 0, .int 10, .int 100, .int 50, .int 0, .int 50])), (cr, .inr (7, [.ref w0, .ref w1, .ref w2, .ref w3, .int 0, .int 0]))]) hD hS hA [0, 1, 2] rfl
  refine vx_calli (vx_runSX (As := [.ref x, .int sv1, .ref oA]) (rest := []) ⟨hx, hb, hml, hown, htl⟩ (c_w_whereIs l hst dC dI E x now fc ro hto de cr co sh eo w0 w1 w2 w3 sv1 oA H.size) (vx_cwSW 3 htl gL_law_L_whereIs rfl rfl rfl (by decide +kernel) ⟨(Nat.le_of_ble_eq_true rfl), (Nat.le_of_ble_eq_true rfl)⟩) ⟨pre_blind, pre_call hPc hDc hKc hFc hE hZ hS⟩ rfl rfl hl.1 rfl (lv_room (Nat.le_of_ble_eq_true rfl)) dL_law_1323 ⟨(Nat.le_of_ble_eq_true rfl), (Nat.le_of_ble_eq_true rfl)⟩) hS (fun q _ h => hFc q h) hFc (fun q _ h => hFc q h) (fun E9 ce q9 u t H1 locs1 ht hvm hw hB hz1 hk1 hS hc9 hv9 hf9 => hw.elim) (fun r u t H1 locs1 ht hvm hw hB hz1 hk1 hS => ?_)
  have hw9 : r = 1 := hw
  rw [hw9]
  obtain ⟨hP, hD, hK⟩ := pst_drop (wc := [(x, .inr (14, [.ref now, .ref fc])), (now, .inr (13, [.ref ro, .ref hto, .ref de, .ref cr, .ref co, .ref sh, .ref eo, .int 0, .int 0, .int 10, .int 100, .int 50, .int 0, .int 50])), (cr, .inr (7, [.ref w0, .ref w1, .ref w2, .ref w3, .int 0, .int 0]))]) (wr := [(mo, .inr (21, [.ref s0, .int 0])), (s0, .inr (20, [.ref l0, .ref l1, .ref l2, .ref l3, .ref l4, .ref l5, .ref l6, .ref l7, .ref l8, .int 10, .int 100, .int 50, .int 0, .int 0])), (l5, .inr (5, [.int 0, .ref (E 0), .int 0]))]) (tr := []) hP hD hK [0, 1, 2] [3, 4, 5] [] rfl rfl rfl (by decide) (by decide) hk1 hFc
  generalize H1 = H at hP hS ⊢
  have hP : va_P (dC, dI) vwCl [(mo, .inr (21, [.ref s0, .int 0])), (s0, .inr (20, [.ref l0, .ref l1, .ref l2, .ref l3, .ref l4, .ref l5, .ref l6, .ref l7, .ref l8, .int 10, .int 100, .int 50, .int 0, .int 0])), (l5, .inr (5, [.int 0, .ref (E 0), .int 0]))] H := hP
  have hD : va_D (fun q : Nat => s.heap.size ≤ q) [(mo, .inr (21, [.ref s0, .int 0])), (s0, .inr (20, [.ref l0, .ref l1, .ref l2, .ref l3, .ref l4, .ref l5, .ref l6, .ref l7, .ref l8, .int 10, .int 100, .int 50, .int 0, .int 0])), (l5, .inr (5, [.int 0, .ref (E 0), .int 0]))] := hD
  have hK : va_K (dC, dI) vwCl [] s := hK
  refine W.widen (k := 77) (n := 1487) (Nat.le_of_ble_eq_true rfl) (Nat.le_of_ble_eq_true rfl) ?_
  refine lv_istore (lv' := [(6, .int 1), (0, .ref b), (1, .ref x), (2, .ref mo), (3, .ref oA), (4, .ref oD), (5, .int 0)]) hx hb dL_law_1326 hl (by decide) rfl (fun ls hl => ?_)
  refine lv_aload_n hx hb dL_law_1328 rfl (lv_at hl 3 rfl) ?_
  refine lv_aload_n hx hb dL_law_1329 rfl (lv_at hl 1 rfl) ?_
  refine lv_iload hx hb dL_law_1330 (lv_at hl 6 rfl) ?_
  refine lv_iconst (v := 1) hx hb dL_law_1332 (by decide) ?_
  refine lv_iadd hx hb dL_law_1333 ?_
  refine lv_topi (fun z_4 ez_4 => ?_)
  obtain rfl : z_4 = 1 := ez_4.trans (by decide)
  refine va_sld hx hb hX hbl hbA hS (by unfold vp_in; decide) dL_law_1334 ?_
  refine lv_topi (fun z_5 ez_5 => ?_)
  obtain rfl : sv1 = z_5 := hv1.trans ez_5.symm
  have hPc := hP.sub (ws' := [(mo, .inr (21, [.ref s0, .int 0])), (s0, .inr (20, [.ref l0, .ref l1, .ref l2, .ref l3, .ref l4, .ref l5, .ref l6, .ref l7, .ref l8, .int 10, .int 100, .int 50, .int 0, .int 0])), (l5, .inr (5, [.int 0, .ref (E 0), .int 0]))]) [0, 1, 2] rfl
  have hDc := hD.sub (ws' := [(mo, .inr (21, [.ref s0, .int 0])), (s0, .inr (20, [.ref l0, .ref l1, .ref l2, .ref l3, .ref l4, .ref l5, .ref l6, .ref l7, .ref l8, .int 10, .int 100, .int 50, .int 0, .int 0])), (l5, .inr (5, [.int 0, .ref (E 0), .int 0]))]) [0, 1, 2] (by decide) rfl
  have hKc := hK.sub (tys' := []) [] rfl
  have hFc := va_free (wc := [(mo, .inr (21, [.ref s0, .int 0])), (s0, .inr (20, [.ref l0, .ref l1, .ref l2, .ref l3, .ref l4, .ref l5, .ref l6, .ref l7, .ref l8, .int 10, .int 100, .int 50, .int 0, .int 0])), (l5, .inr (5, [.int 0, .ref (E 0), .int 0]))]) hD hS hA [0, 1, 2] rfl
  refine va_calli (va_runV (As := [.int sv1]) (rest := []) ⟨hx, hb, hml, hown, htl⟩ (c_rm_whereIs l dC dI E mo s0 l0 l1 l2 l3 l4 l5 l6 l7 l8 0 sv1 H.size) (cwV 1 htl gL_law_X15_whereIs rfl rfl rfl (by decide +kernel) ⟨(Nat.le_of_ble_eq_true rfl), (Nat.le_of_ble_eq_true rfl)⟩) ⟨pre_blind, va_recv hKc hPc (ci := 21) (q0 := 0) rfl rfl, pre_call hPc hDc hKc hFc hE hZ hS⟩ rfl rfl hl.1 rfl (lv_room (Nat.le_of_ble_eq_true rfl)) dL_law_1335 ⟨(Nat.le_of_ble_eq_true rfl), (Nat.le_of_ble_eq_true rfl)⟩) hS (fun q _ h => hFc q h) hFc (fun r u t H1 locs1 ht hvm hw hB hz1 hk1 hS => ?_)
  have hw9 : r = 0 := hw
  rw [hw9]
  obtain ⟨hP, hD, hK⟩ := pst_join (wc := [(mo, .inr (21, [.ref s0, .int 0])), (s0, .inr (20, [.ref l0, .ref l1, .ref l2, .ref l3, .ref l4, .ref l5, .ref l6, .ref l7, .ref l8, .int 10, .int 100, .int 50, .int 0, .int 0])), (l5, .inr (5, [.int 0, .ref (E 0), .int 0]))]) (wr := []) (w1 := [(mo, .inr (21, [.ref s0, .int 1]))]) (tr := []) (t1 := []) hP hD hK [0, 1, 2] [] [] rfl rfl rfl (by decide) (by decide) hk1 hFc ht hvm hB
  generalize H1 = H at hP hS ⊢
  have hP : va_P (dC, dI) vwCl [(mo, .inr (21, [.ref s0, .int 1]))] H := hP
  have hD : va_D (fun q : Nat => s.heap.size ≤ q) [(mo, .inr (21, [.ref s0, .int 1]))] := hD
  have hK : va_K (dC, dI) vwCl [] s := hK
  refine W.widen (k := 77) (n := 1487) (Nat.le_of_ble_eq_true rfl) (Nat.le_of_ble_eq_true rfl) ?_
  refine lv_istore (lv' := [(7, .int 0), (6, .int 1), (0, .ref b), (1, .ref x), (2, .ref mo), (3, .ref oA), (4, .ref oD), (5, .int 0)]) hx hb dL_law_1338 hl (by decide) rfl (fun ls hl => ?_)
  refine lv_aload_n hx hb dL_law_1340 rfl (lv_at hl 4 rfl) ?_
  have hPc := hP.sub (ws' := [(mo, .inr (21, [.ref s0, .int 1]))]) [0] rfl
  have hDc := hD.sub (ws' := [(mo, .inr (21, [.ref s0, .int 1]))]) [0] (by decide) rfl
  have hKc := hK.sub (tys' := []) [] rfl
  have hFc := va_free (wc := [(mo, .inr (21, [.ref s0, .int 1]))]) hD hS hA [0] rfl
  refine va_calli (va_runV (As := []) (rest := []) ⟨hx, hb, hml, hown, htl⟩ (c_rm_thrown l dC dI E mo s0 1 H.size) (cwV 0 htl gL_law_X15_thrown rfl rfl rfl (by decide +kernel) ⟨(Nat.le_of_ble_eq_true rfl), (Nat.le_of_ble_eq_true rfl)⟩) ⟨pre_blind, va_recv hKc hPc (ci := 21) (q0 := 0) rfl rfl, pre_call hPc hDc hKc hFc hE hZ hS⟩ rfl rfl hl.1 rfl (lv_room (Nat.le_of_ble_eq_true rfl)) dL_law_1341 ⟨(Nat.le_of_ble_eq_true rfl), (Nat.le_of_ble_eq_true rfl)⟩) hS (fun q _ h => hFc q h) hFc (fun r u t H1 locs1 ht hvm hw hB hz1 hk1 hS => ?_)
  have hw9 : r = 1 := hw
  rw [hw9]
  obtain ⟨hP, hD, hK⟩ := pst_join (wc := [(mo, .inr (21, [.ref s0, .int 1]))]) (wr := []) (w1 := [(mo, .inr (21, [.ref s0, .int 1]))]) (tr := []) (t1 := []) hP hD hK [0] [] [] rfl rfl rfl (by decide) (by decide) hk1 hFc ht hvm hB
  generalize H1 = H at hP hS ⊢
  have hP : va_P (dC, dI) vwCl [(mo, .inr (21, [.ref s0, .int 1]))] H := hP
  have hD : va_D (fun q : Nat => s.heap.size ≤ q) [(mo, .inr (21, [.ref s0, .int 1]))] := hD
  have hK : va_K (dC, dI) vwCl [] s := hK
  refine W.widen (k := 77) (n := 1487) (Nat.le_of_ble_eq_true rfl) (Nat.le_of_ble_eq_true rfl) ?_
  refine lv_iload hx hb dL_law_1344 (lv_at hl 1 rfl) ?_
  refine lv_icmp_eq (tgt := 1351) hx hb dL_law_1346 (by decide) (fun _ => ?_) (fun c9 => absurd (by decide) c9)
  refine lv_iload hx hb dL_law_1351 (lv_at hl 1 rfl) ?_
  refine lv_if_ne (tgt := 1368) hx hb dL_law_1353 (by decide) (fun _ => ?_) (fun c9 => absurd c9 (by decide))
  refine lv_goto (tgt := 1756) hx hb dL_law_1368 (by decide) ?_
  exact law_end C0 hS (lv_sub hl [2, 7] rfl) (Nat.le_of_ble_eq_true rfl) (Nat.le_of_ble_eq_true rfl)

set_option maxHeartbeats 4000000 in
set_option maxRecDepth 100000 in
theorem law_distance {p : Program} {l : Launch} {e : Env} {s : State} {m : MethodId} {below : List Frame} {meth : Method} {c : Code} {b : Nat} {xs : Nat → Int32} {dC : Nat → ClassId} {dI : Nat → Nat → Nat} {E : Nat → Nat} {sv1 : Int32} {sv2 : Int32} {sv3 : Int32} {sv4 : Int32} {sk1 : Int32} {sk2 : Int32} {x : Nat} {now : Nat} {fc : Nat} {ro : Nat} {hto : Nat} {de : Nat} {cr : Nat} {co : Nat} {sh : Nat} {eo : Nat} {p0 : Nat} {p1 : Nat} {p2 : Nat} {p3 : Nat} {p4 : Nat} {mo : Nat} {s0 : Nat} {l0 : Nat} {l1 : Nat} {l2 : Nat} {l3 : Nat} {l4 : Nat} {l5 : Nat} {l6 : Nat} {l7 : Nat} {l8 : Nat} {oA : Nat} {oD : Nat} (hst : l.stackTraces = false) (C0 : lw_At p s m meth c b 5 xs) (hE : ev E s) (hZ : es E (fun q : Nat => s.heap.size ≤ q) s s.heap) (hv1 : sv1 = xs (1 : Int32).toNatClampNeg) (hv2 : sv2 = xs (2 : Int32).toNatClampNeg) (hv3 : sv3 = xs (3 : Int32).toNatClampNeg) (hv4 : sv4 = xs (4 : Int32).toNatClampNeg) (hch1 : sk1 = (sv1.toUInt32 % 65536).toInt32) (hch2 : sk2 = (sv2.toUInt32 % 65536).toInt32) {H : Heap} {locs : List Loc} {ls : Array Slot} (hK : va_K (dC, dI) vwCl [] s) (hP : va_P (dC, dI) vwCl [(x, .inr (14, [.ref now, .ref fc])), (now, .inr (13, [.ref ro, .ref hto, .ref de, .ref cr, .ref co, .ref sh, .ref eo, .int 0, .int 0, .int 10, .int 100, .int 50, .int 0, .int 50])), (sh, .inr (12, [.ref p0, .ref p1, .ref p2, .ref p3, .ref p4, .int 0])), (mo, .inr (21, [.ref s0, .int 0])), (s0, .inr (20, [.ref l0, .ref l1, .ref l2, .ref l3, .ref l4, .ref l5, .ref l6, .ref l7, .ref l8, .int 10, .int 100, .int 50, .int 0, .int 0])), (l6, .inr (5, [.int 0, .ref (E 0), .int 0]))] H) (hD : va_D (fun q : Nat => s.heap.size ≤ q) [(x, .inr (14, [.ref now, .ref fc])), (now, .inr (13, [.ref ro, .ref hto, .ref de, .ref cr, .ref co, .ref sh, .ref eo, .int 0, .int 0, .int 10, .int 100, .int 50, .int 0, .int 50])), (sh, .inr (12, [.ref p0, .ref p1, .ref p2, .ref p3, .ref p4, .int 0])), (mo, .inr (21, [.ref s0, .int 0])), (s0, .inr (20, [.ref l0, .ref l1, .ref l2, .ref l3, .ref l4, .ref l5, .ref l6, .ref l7, .ref l8, .int 10, .int 100, .int 50, .int 0, .int 0])), (l6, .inr (5, [.int 0, .ref (E 0), .int 0]))]) (hS : va_S (fun q : Nat => s.heap.size ≤ q) s.heap H locs) (hl : lv_has ls 9 [(0, .ref b), (1, .ref x), (2, .ref mo), (3, .ref oA), (4, .ref oD), (5, .int 0)]) : W p l e room_1 s m #[Value.ref b] below meth c H locs 76 1481 (lw_Z below #[Value.ref b] s) (F0 m 1371 ls []) := by
  obtain ⟨hx, hb, hr, hml, hown, hts, hX, hbl, hlocks, hgv⟩ := id C0
  have hA : ∀ q : Nat, s.heap.size ≤ q → (fun q : Nat => s.heap.size ≤ q) q := fun _ h => h
  have hbA : ¬ (fun q : Nat => s.heap.size ≤ q) b := Nat.not_le.mpr hbl
  have hown : s.vm.findClass RL = some m.cls := hown
  have htl : ∀ w ∈ wsL_law, w.before #[Value.ref b] s = true := fun w h => hts w (wsL_law_in w h)
  refine lv_aload_n hx hb dL_law_1371 rfl (lv_at hl 1 rfl) ?_
  refine lv_aload_n hx hb dL_law_1372 rfl (lv_at hl 0 rfl) ?_
  refine lv_iload hx hb dL_law_1373 (lv_at hl 5 rfl) ?_
  refine lv_iconst (v := 1) hx hb dL_law_1375 (by decide) ?_
  refine lv_iadd hx hb dL_law_1376 ?_
  refine lv_topi (fun z_1 ez_1 => ?_)
  obtain rfl : z_1 = 1 := ez_1.trans (by decide)
  refine va_sld hx hb hX hbl hbA hS (by unfold vp_in; decide) dL_law_1377 ?_
  refine lv_topi (fun z_2 ez_2 => ?_)
  obtain rfl : sv1 = z_2 := hv1.trans ez_2.symm
  refine lv_aload_n hx hb dL_law_1378 rfl (lv_at hl 3 rfl) ?_
  have hPc := hP.sub (ws' := [(x, .inr (14, [.ref now, .ref fc])), (now, .inr (13, [.ref ro, .ref hto, .ref de, .ref cr, .ref co, .ref sh, .ref eo, .int 0, .int 0, .int 10, .int 100, .int 50, .int 0, .int 50])), (sh, .inr (12, [.ref p0, .ref p1, .ref p2, .ref p3, .ref p4, .int 0]))]) [0, 1, 2] rfl
  have hDc := hD.sub (ws' := [(x, .inr (14, [.ref now, .ref fc])), (now, .inr (13, [.ref ro, .ref hto, .ref de, .ref cr, .ref co, .ref sh, .ref eo, .int 0, .int 0, .int 10, .int 100, .int 50, .int 0, .int 50])), (sh, .inr (12, [.ref p0, .ref p1, .ref p2, .ref p3, .ref p4, .int 0]))]) [0, 1, 2] (by decide) rfl
  have hKc := hK.sub (tys' := []) [] rfl
  have hFc := va_free (wc := [(x, .inr (14, [.ref now, .ref fc])), (now, .inr (13, [.ref ro, .ref hto, .ref de, .ref cr, .ref co, .ref sh, .ref eo, .int 0, .int 0, .int 10, .int 100, .int 50, .int 0, .int 50])), (sh, .inr (12, [.ref p0, .ref p1, .ref p2, .ref p3, .ref p4, .int 0]))]) hD hS hA [0, 1, 2] rfl
  refine vx_calli (vx_runSX (As := [.ref x, .int sv1, .ref oA]) (rest := []) ⟨hx, hb, hml, hown, htl⟩ (c_w_distance l hst dC dI E x now fc ro hto de cr co sh eo p0 p1 p2 p3 p4 sv1 oA H.size) (vx_cwSW 3 htl gL_law_L_distance rfl rfl rfl (by decide +kernel) ⟨(Nat.le_of_ble_eq_true rfl), (Nat.le_of_ble_eq_true rfl)⟩) ⟨pre_blind, pre_call hPc hDc hKc hFc hE hZ hS⟩ rfl rfl hl.1 rfl (lv_room (Nat.le_of_ble_eq_true rfl)) dL_law_1379 ⟨(Nat.le_of_ble_eq_true rfl), (Nat.le_of_ble_eq_true rfl)⟩) hS (fun q _ h => hFc q h) hFc (fun q _ h => hFc q h) (fun E9 ce q9 u t H1 locs1 ht hvm hw hB hz1 hk1 hS hc9 hv9 hf9 => hw.elim) (fun r u t H1 locs1 ht hvm hw hB hz1 hk1 hS => ?_)
  have hw9 : r = 1 := hw
  rw [hw9]
  obtain ⟨hP, hD, hK⟩ := pst_drop (wc := [(x, .inr (14, [.ref now, .ref fc])), (now, .inr (13, [.ref ro, .ref hto, .ref de, .ref cr, .ref co, .ref sh, .ref eo, .int 0, .int 0, .int 10, .int 100, .int 50, .int 0, .int 50])), (sh, .inr (12, [.ref p0, .ref p1, .ref p2, .ref p3, .ref p4, .int 0]))]) (wr := [(mo, .inr (21, [.ref s0, .int 0])), (s0, .inr (20, [.ref l0, .ref l1, .ref l2, .ref l3, .ref l4, .ref l5, .ref l6, .ref l7, .ref l8, .int 10, .int 100, .int 50, .int 0, .int 0])), (l6, .inr (5, [.int 0, .ref (E 0), .int 0]))]) (tr := []) hP hD hK [0, 1, 2] [3, 4, 5] [] rfl rfl rfl (by decide) (by decide) hk1 hFc
  generalize H1 = H at hP hS ⊢
  have hP : va_P (dC, dI) vwCl [(mo, .inr (21, [.ref s0, .int 0])), (s0, .inr (20, [.ref l0, .ref l1, .ref l2, .ref l3, .ref l4, .ref l5, .ref l6, .ref l7, .ref l8, .int 10, .int 100, .int 50, .int 0, .int 0])), (l6, .inr (5, [.int 0, .ref (E 0), .int 0]))] H := hP
  have hD : va_D (fun q : Nat => s.heap.size ≤ q) [(mo, .inr (21, [.ref s0, .int 0])), (s0, .inr (20, [.ref l0, .ref l1, .ref l2, .ref l3, .ref l4, .ref l5, .ref l6, .ref l7, .ref l8, .int 10, .int 100, .int 50, .int 0, .int 0])), (l6, .inr (5, [.int 0, .ref (E 0), .int 0]))] := hD
  have hK : va_K (dC, dI) vwCl [] s := hK
  refine W.widen (k := 77) (n := 1487) (Nat.le_of_ble_eq_true rfl) (Nat.le_of_ble_eq_true rfl) ?_
  refine lv_istore (lv' := [(6, .int 1), (0, .ref b), (1, .ref x), (2, .ref mo), (3, .ref oA), (4, .ref oD), (5, .int 0)]) hx hb dL_law_1382 hl (by decide) rfl (fun ls hl => ?_)
  refine lv_aload_n hx hb dL_law_1384 rfl (lv_at hl 3 rfl) ?_
  refine lv_aload_n hx hb dL_law_1385 rfl (lv_at hl 1 rfl) ?_
  refine lv_iload hx hb dL_law_1386 (lv_at hl 6 rfl) ?_
  refine lv_iconst (v := 1) hx hb dL_law_1388 (by decide) ?_
  refine lv_iadd hx hb dL_law_1389 ?_
  refine lv_topi (fun z_4 ez_4 => ?_)
  obtain rfl : z_4 = 1 := ez_4.trans (by decide)
  refine va_sld hx hb hX hbl hbA hS (by unfold vp_in; decide) dL_law_1390 ?_
  refine lv_topi (fun z_5 ez_5 => ?_)
  obtain rfl : sv1 = z_5 := hv1.trans ez_5.symm
  have hPc := hP.sub (ws' := [(mo, .inr (21, [.ref s0, .int 0])), (s0, .inr (20, [.ref l0, .ref l1, .ref l2, .ref l3, .ref l4, .ref l5, .ref l6, .ref l7, .ref l8, .int 10, .int 100, .int 50, .int 0, .int 0])), (l6, .inr (5, [.int 0, .ref (E 0), .int 0]))]) [0, 1, 2] rfl
  have hDc := hD.sub (ws' := [(mo, .inr (21, [.ref s0, .int 0])), (s0, .inr (20, [.ref l0, .ref l1, .ref l2, .ref l3, .ref l4, .ref l5, .ref l6, .ref l7, .ref l8, .int 10, .int 100, .int 50, .int 0, .int 0])), (l6, .inr (5, [.int 0, .ref (E 0), .int 0]))]) [0, 1, 2] (by decide) rfl
  have hKc := hK.sub (tys' := []) [] rfl
  have hFc := va_free (wc := [(mo, .inr (21, [.ref s0, .int 0])), (s0, .inr (20, [.ref l0, .ref l1, .ref l2, .ref l3, .ref l4, .ref l5, .ref l6, .ref l7, .ref l8, .int 10, .int 100, .int 50, .int 0, .int 0])), (l6, .inr (5, [.int 0, .ref (E 0), .int 0]))]) hD hS hA [0, 1, 2] rfl
  refine va_calli (va_runV (As := [.int sv1]) (rest := []) ⟨hx, hb, hml, hown, htl⟩ (c_rm_distance l dC dI E mo s0 l0 l1 l2 l3 l4 l5 l6 l7 l8 0 sv1 H.size) (cwV 1 htl gL_law_X15_distance rfl rfl rfl (by decide +kernel) ⟨(Nat.le_of_ble_eq_true rfl), (Nat.le_of_ble_eq_true rfl)⟩) ⟨pre_blind, va_recv hKc hPc (ci := 21) (q0 := 0) rfl rfl, pre_call hPc hDc hKc hFc hE hZ hS⟩ rfl rfl hl.1 rfl (lv_room (Nat.le_of_ble_eq_true rfl)) dL_law_1391 ⟨(Nat.le_of_ble_eq_true rfl), (Nat.le_of_ble_eq_true rfl)⟩) hS (fun q _ h => hFc q h) hFc (fun r u t H1 locs1 ht hvm hw hB hz1 hk1 hS => ?_)
  have hw9 : r = 0 := hw
  rw [hw9]
  obtain ⟨hP, hD, hK⟩ := pst_join (wc := [(mo, .inr (21, [.ref s0, .int 0])), (s0, .inr (20, [.ref l0, .ref l1, .ref l2, .ref l3, .ref l4, .ref l5, .ref l6, .ref l7, .ref l8, .int 10, .int 100, .int 50, .int 0, .int 0])), (l6, .inr (5, [.int 0, .ref (E 0), .int 0]))]) (wr := []) (w1 := [(mo, .inr (21, [.ref s0, .int 1]))]) (tr := []) (t1 := []) hP hD hK [0, 1, 2] [] [] rfl rfl rfl (by decide) (by decide) hk1 hFc ht hvm hB
  generalize H1 = H at hP hS ⊢
  have hP : va_P (dC, dI) vwCl [(mo, .inr (21, [.ref s0, .int 1]))] H := hP
  have hD : va_D (fun q : Nat => s.heap.size ≤ q) [(mo, .inr (21, [.ref s0, .int 1]))] := hD
  have hK : va_K (dC, dI) vwCl [] s := hK
  refine W.widen (k := 77) (n := 1487) (Nat.le_of_ble_eq_true rfl) (Nat.le_of_ble_eq_true rfl) ?_
  refine lv_istore (lv' := [(7, .int 0), (6, .int 1), (0, .ref b), (1, .ref x), (2, .ref mo), (3, .ref oA), (4, .ref oD), (5, .int 0)]) hx hb dL_law_1394 hl (by decide) rfl (fun ls hl => ?_)
  refine lv_aload_n hx hb dL_law_1396 rfl (lv_at hl 4 rfl) ?_
  have hPc := hP.sub (ws' := [(mo, .inr (21, [.ref s0, .int 1]))]) [0] rfl
  have hDc := hD.sub (ws' := [(mo, .inr (21, [.ref s0, .int 1]))]) [0] (by decide) rfl
  have hKc := hK.sub (tys' := []) [] rfl
  have hFc := va_free (wc := [(mo, .inr (21, [.ref s0, .int 1]))]) hD hS hA [0] rfl
  refine va_calli (va_runV (As := []) (rest := []) ⟨hx, hb, hml, hown, htl⟩ (c_rm_thrown l dC dI E mo s0 1 H.size) (cwV 0 htl gL_law_X15_thrown rfl rfl rfl (by decide +kernel) ⟨(Nat.le_of_ble_eq_true rfl), (Nat.le_of_ble_eq_true rfl)⟩) ⟨pre_blind, va_recv hKc hPc (ci := 21) (q0 := 0) rfl rfl, pre_call hPc hDc hKc hFc hE hZ hS⟩ rfl rfl hl.1 rfl (lv_room (Nat.le_of_ble_eq_true rfl)) dL_law_1397 ⟨(Nat.le_of_ble_eq_true rfl), (Nat.le_of_ble_eq_true rfl)⟩) hS (fun q _ h => hFc q h) hFc (fun r u t H1 locs1 ht hvm hw hB hz1 hk1 hS => ?_)
  have hw9 : r = 1 := hw
  rw [hw9]
  obtain ⟨hP, hD, hK⟩ := pst_join (wc := [(mo, .inr (21, [.ref s0, .int 1]))]) (wr := []) (w1 := [(mo, .inr (21, [.ref s0, .int 1]))]) (tr := []) (t1 := []) hP hD hK [0] [] [] rfl rfl rfl (by decide) (by decide) hk1 hFc ht hvm hB
  generalize H1 = H at hP hS ⊢
  have hP : va_P (dC, dI) vwCl [(mo, .inr (21, [.ref s0, .int 1]))] H := hP
  have hD : va_D (fun q : Nat => s.heap.size ≤ q) [(mo, .inr (21, [.ref s0, .int 1]))] := hD
  have hK : va_K (dC, dI) vwCl [] s := hK
  refine W.widen (k := 77) (n := 1487) (Nat.le_of_ble_eq_true rfl) (Nat.le_of_ble_eq_true rfl) ?_
  refine lv_iload hx hb dL_law_1400 (lv_at hl 1 rfl) ?_
  refine lv_icmp_eq (tgt := 1407) hx hb dL_law_1402 (by decide) (fun _ => ?_) (fun c9 => absurd (by decide) c9)
  refine lv_iload hx hb dL_law_1407 (lv_at hl 1 rfl) ?_
  refine lv_if_ne (tgt := 1424) hx hb dL_law_1409 (by decide) (fun _ => ?_) (fun c9 => absurd c9 (by decide))
  refine lv_goto (tgt := 1756) hx hb dL_law_1424 (by decide) ?_
  exact law_end C0 hS (lv_sub hl [2, 7] rfl) (Nat.le_of_ble_eq_true rfl) (Nat.le_of_ble_eq_true rfl)

set_option maxHeartbeats 4000000 in
set_option maxRecDepth 100000 in
theorem law_isOn {p : Program} {l : Launch} {e : Env} {s : State} {m : MethodId} {below : List Frame} {meth : Method} {c : Code} {b : Nat} {xs : Nat → Int32} {dC : Nat → ClassId} {dI : Nat → Nat → Nat} {E : Nat → Nat} {sv1 : Int32} {sv2 : Int32} {sv3 : Int32} {sv4 : Int32} {sk1 : Int32} {sk2 : Int32} {x : Nat} {now : Nat} {fc : Nat} {ro : Nat} {hto : Nat} {de : Nat} {cr : Nat} {co : Nat} {sh : Nat} {eo : Nat} {v0 : Nat} {v1 : Nat} {v2 : Nat} {mo : Nat} {s0 : Nat} {l0 : Nat} {l1 : Nat} {l2 : Nat} {l3 : Nat} {l4 : Nat} {l5 : Nat} {l6 : Nat} {l7 : Nat} {l8 : Nat} {oA : Nat} {oD : Nat} (hst : l.stackTraces = false) (C0 : lw_At p s m meth c b 5 xs) (hE : ev E s) (hZ : es E (fun q : Nat => s.heap.size ≤ q) s s.heap) (hv1 : sv1 = xs (1 : Int32).toNatClampNeg) (hv2 : sv2 = xs (2 : Int32).toNatClampNeg) (hv3 : sv3 = xs (3 : Int32).toNatClampNeg) (hv4 : sv4 = xs (4 : Int32).toNatClampNeg) (hch1 : sk1 = (sv1.toUInt32 % 65536).toInt32) (hch2 : sk2 = (sv2.toUInt32 % 65536).toInt32) {H : Heap} {locs : List Loc} {ls : Array Slot} (hK : va_K (dC, dI) vwCl [] s) (hP : va_P (dC, dI) vwCl [(x, .inr (14, [.ref now, .ref fc])), (now, .inr (13, [.ref ro, .ref hto, .ref de, .ref cr, .ref co, .ref sh, .ref eo, .int 0, .int 0, .int 10, .int 100, .int 50, .int 0, .int 50])), (de, .inr (8, [.ref v0, .ref v1, .ref v2, .int 0, .int (-1)])), (mo, .inr (21, [.ref s0, .int 0])), (s0, .inr (20, [.ref l0, .ref l1, .ref l2, .ref l3, .ref l4, .ref l5, .ref l6, .ref l7, .ref l8, .int 10, .int 100, .int 50, .int 0, .int 0])), (l4, .inr (5, [.int 0, .ref (E 0), .int 0]))] H) (hD : va_D (fun q : Nat => s.heap.size ≤ q) [(x, .inr (14, [.ref now, .ref fc])), (now, .inr (13, [.ref ro, .ref hto, .ref de, .ref cr, .ref co, .ref sh, .ref eo, .int 0, .int 0, .int 10, .int 100, .int 50, .int 0, .int 50])), (de, .inr (8, [.ref v0, .ref v1, .ref v2, .int 0, .int (-1)])), (mo, .inr (21, [.ref s0, .int 0])), (s0, .inr (20, [.ref l0, .ref l1, .ref l2, .ref l3, .ref l4, .ref l5, .ref l6, .ref l7, .ref l8, .int 10, .int 100, .int 50, .int 0, .int 0])), (l4, .inr (5, [.int 0, .ref (E 0), .int 0]))]) (hS : va_S (fun q : Nat => s.heap.size ≤ q) s.heap H locs) (hl : lv_has ls 9 [(0, .ref b), (1, .ref x), (2, .ref mo), (3, .ref oA), (4, .ref oD), (5, .int 0)]) : W p l e room_1 s m #[Value.ref b] below meth c H locs 76 1481 (lw_Z below #[Value.ref b] s) (F0 m 1427 ls []) := by
  obtain ⟨hx, hb, hr, hml, hown, hts, hX, hbl, hlocks, hgv⟩ := id C0
  have hA : ∀ q : Nat, s.heap.size ≤ q → (fun q : Nat => s.heap.size ≤ q) q := fun _ h => h
  have hbA : ¬ (fun q : Nat => s.heap.size ≤ q) b := Nat.not_le.mpr hbl
  have hown : s.vm.findClass RL = some m.cls := hown
  have htl : ∀ w ∈ wsL_law, w.before #[Value.ref b] s = true := fun w h => hts w (wsL_law_in w h)
  refine lv_aload_n hx hb dL_law_1427 rfl (lv_at hl 1 rfl) ?_
  refine lv_aload_n hx hb dL_law_1428 rfl (lv_at hl 0 rfl) ?_
  refine lv_iload hx hb dL_law_1429 (lv_at hl 5 rfl) ?_
  refine lv_iconst (v := 1) hx hb dL_law_1431 (by decide) ?_
  refine lv_iadd hx hb dL_law_1432 ?_
  refine lv_topi (fun z_1 ez_1 => ?_)
  obtain rfl : z_1 = 1 := ez_1.trans (by decide)
  refine va_sld hx hb hX hbl hbA hS (by unfold vp_in; decide) dL_law_1433 ?_
  refine lv_topi (fun z_2 ez_2 => ?_)
  obtain rfl : sv1 = z_2 := hv1.trans ez_2.symm
  refine lv_aload_n hx hb dL_law_1434 rfl (lv_at hl 3 rfl) ?_
  have hPc := hP.sub (ws' := [(x, .inr (14, [.ref now, .ref fc])), (now, .inr (13, [.ref ro, .ref hto, .ref de, .ref cr, .ref co, .ref sh, .ref eo, .int 0, .int 0, .int 10, .int 100, .int 50, .int 0, .int 50])), (de, .inr (8, [.ref v0, .ref v1, .ref v2, .int 0, .int (-1)]))]) [0, 1, 2] rfl
  have hDc := hD.sub (ws' := [(x, .inr (14, [.ref now, .ref fc])), (now, .inr (13, [.ref ro, .ref hto, .ref de, .ref cr, .ref co, .ref sh, .ref eo, .int 0, .int 0, .int 10, .int 100, .int 50, .int 0, .int 50])), (de, .inr (8, [.ref v0, .ref v1, .ref v2, .int 0, .int (-1)]))]) [0, 1, 2] (by decide) rfl
  have hKc := hK.sub (tys' := []) [] rfl
  have hFc := va_free (wc := [(x, .inr (14, [.ref now, .ref fc])), (now, .inr (13, [.ref ro, .ref hto, .ref de, .ref cr, .ref co, .ref sh, .ref eo, .int 0, .int 0, .int 10, .int 100, .int 50, .int 0, .int 50])), (de, .inr (8, [.ref v0, .ref v1, .ref v2, .int 0, .int (-1)]))]) hD hS hA [0, 1, 2] rfl
  refine vx_calli (vx_runSX (As := [.ref x, .int sv1, .ref oA]) (rest := []) ⟨hx, hb, hml, hown, htl⟩ (c_w_isOn l hst dC dI E x now fc ro hto de cr co sh eo v0 v1 v2 sv1 oA H.size) (vx_cwSW 3 htl gL_law_L_isOn rfl rfl rfl (by decide +kernel) ⟨(Nat.le_of_ble_eq_true rfl), (Nat.le_of_ble_eq_true rfl)⟩) ⟨pre_blind, pre_call hPc hDc hKc hFc hE hZ hS⟩ rfl rfl hl.1 rfl (lv_room (Nat.le_of_ble_eq_true rfl)) dL_law_1435 ⟨(Nat.le_of_ble_eq_true rfl), (Nat.le_of_ble_eq_true rfl)⟩) hS (fun q _ h => hFc q h) hFc (fun q _ h => hFc q h) (fun E9 ce q9 u t H1 locs1 ht hvm hw hB hz1 hk1 hS hc9 hv9 hf9 => hw.elim) (fun r u t H1 locs1 ht hvm hw hB hz1 hk1 hS => ?_)
  have hw9 : r = 1 := hw
  rw [hw9]
  obtain ⟨hP, hD, hK⟩ := pst_drop (wc := [(x, .inr (14, [.ref now, .ref fc])), (now, .inr (13, [.ref ro, .ref hto, .ref de, .ref cr, .ref co, .ref sh, .ref eo, .int 0, .int 0, .int 10, .int 100, .int 50, .int 0, .int 50])), (de, .inr (8, [.ref v0, .ref v1, .ref v2, .int 0, .int (-1)]))]) (wr := [(mo, .inr (21, [.ref s0, .int 0])), (s0, .inr (20, [.ref l0, .ref l1, .ref l2, .ref l3, .ref l4, .ref l5, .ref l6, .ref l7, .ref l8, .int 10, .int 100, .int 50, .int 0, .int 0])), (l4, .inr (5, [.int 0, .ref (E 0), .int 0]))]) (tr := []) hP hD hK [0, 1, 2] [3, 4, 5] [] rfl rfl rfl (by decide) (by decide) hk1 hFc
  generalize H1 = H at hP hS ⊢
  have hP : va_P (dC, dI) vwCl [(mo, .inr (21, [.ref s0, .int 0])), (s0, .inr (20, [.ref l0, .ref l1, .ref l2, .ref l3, .ref l4, .ref l5, .ref l6, .ref l7, .ref l8, .int 10, .int 100, .int 50, .int 0, .int 0])), (l4, .inr (5, [.int 0, .ref (E 0), .int 0]))] H := hP
  have hD : va_D (fun q : Nat => s.heap.size ≤ q) [(mo, .inr (21, [.ref s0, .int 0])), (s0, .inr (20, [.ref l0, .ref l1, .ref l2, .ref l3, .ref l4, .ref l5, .ref l6, .ref l7, .ref l8, .int 10, .int 100, .int 50, .int 0, .int 0])), (l4, .inr (5, [.int 0, .ref (E 0), .int 0]))] := hD
  have hK : va_K (dC, dI) vwCl [] s := hK
  refine W.widen (k := 77) (n := 1487) (Nat.le_of_ble_eq_true rfl) (Nat.le_of_ble_eq_true rfl) ?_
  refine lv_istore (lv' := [(6, .int 1), (0, .ref b), (1, .ref x), (2, .ref mo), (3, .ref oA), (4, .ref oD), (5, .int 0)]) hx hb dL_law_1438 hl (by decide) rfl (fun ls hl => ?_)
  refine lv_aload_n hx hb dL_law_1440 rfl (lv_at hl 3 rfl) ?_
  refine lv_aload_n hx hb dL_law_1441 rfl (lv_at hl 1 rfl) ?_
  refine lv_iload hx hb dL_law_1442 (lv_at hl 6 rfl) ?_
  refine lv_iconst (v := 1) hx hb dL_law_1444 (by decide) ?_
  refine lv_iadd hx hb dL_law_1445 ?_
  refine lv_topi (fun z_4 ez_4 => ?_)
  obtain rfl : z_4 = 1 := ez_4.trans (by decide)
  refine va_sld hx hb hX hbl hbA hS (by unfold vp_in; decide) dL_law_1446 ?_
  refine lv_topi (fun z_5 ez_5 => ?_)
  obtain rfl : sv1 = z_5 := hv1.trans ez_5.symm
  have hPc := hP.sub (ws' := [(mo, .inr (21, [.ref s0, .int 0])), (s0, .inr (20, [.ref l0, .ref l1, .ref l2, .ref l3, .ref l4, .ref l5, .ref l6, .ref l7, .ref l8, .int 10, .int 100, .int 50, .int 0, .int 0])), (l4, .inr (5, [.int 0, .ref (E 0), .int 0]))]) [0, 1, 2] rfl
  have hDc := hD.sub (ws' := [(mo, .inr (21, [.ref s0, .int 0])), (s0, .inr (20, [.ref l0, .ref l1, .ref l2, .ref l3, .ref l4, .ref l5, .ref l6, .ref l7, .ref l8, .int 10, .int 100, .int 50, .int 0, .int 0])), (l4, .inr (5, [.int 0, .ref (E 0), .int 0]))]) [0, 1, 2] (by decide) rfl
  have hKc := hK.sub (tys' := []) [] rfl
  have hFc := va_free (wc := [(mo, .inr (21, [.ref s0, .int 0])), (s0, .inr (20, [.ref l0, .ref l1, .ref l2, .ref l3, .ref l4, .ref l5, .ref l6, .ref l7, .ref l8, .int 10, .int 100, .int 50, .int 0, .int 0])), (l4, .inr (5, [.int 0, .ref (E 0), .int 0]))]) hD hS hA [0, 1, 2] rfl
  refine va_calli (va_runV (As := [.int sv1]) (rest := []) ⟨hx, hb, hml, hown, htl⟩ (c_rm_isOn l dC dI E mo s0 l0 l1 l2 l3 l4 l5 l6 l7 l8 0 sv1 H.size) (cwV 1 htl gL_law_X15_isOn rfl rfl rfl (by decide +kernel) ⟨(Nat.le_of_ble_eq_true rfl), (Nat.le_of_ble_eq_true rfl)⟩) ⟨pre_blind, va_recv hKc hPc (ci := 21) (q0 := 0) rfl rfl, pre_call hPc hDc hKc hFc hE hZ hS⟩ rfl rfl hl.1 rfl (lv_room (Nat.le_of_ble_eq_true rfl)) dL_law_1447 ⟨(Nat.le_of_ble_eq_true rfl), (Nat.le_of_ble_eq_true rfl)⟩) hS (fun q _ h => hFc q h) hFc (fun r u t H1 locs1 ht hvm hw hB hz1 hk1 hS => ?_)
  have hw9 : r = 0 := hw
  rw [hw9]
  obtain ⟨hP, hD, hK⟩ := pst_join (wc := [(mo, .inr (21, [.ref s0, .int 0])), (s0, .inr (20, [.ref l0, .ref l1, .ref l2, .ref l3, .ref l4, .ref l5, .ref l6, .ref l7, .ref l8, .int 10, .int 100, .int 50, .int 0, .int 0])), (l4, .inr (5, [.int 0, .ref (E 0), .int 0]))]) (wr := []) (w1 := [(mo, .inr (21, [.ref s0, .int 1]))]) (tr := []) (t1 := []) hP hD hK [0, 1, 2] [] [] rfl rfl rfl (by decide) (by decide) hk1 hFc ht hvm hB
  generalize H1 = H at hP hS ⊢
  have hP : va_P (dC, dI) vwCl [(mo, .inr (21, [.ref s0, .int 1]))] H := hP
  have hD : va_D (fun q : Nat => s.heap.size ≤ q) [(mo, .inr (21, [.ref s0, .int 1]))] := hD
  have hK : va_K (dC, dI) vwCl [] s := hK
  refine W.widen (k := 77) (n := 1487) (Nat.le_of_ble_eq_true rfl) (Nat.le_of_ble_eq_true rfl) ?_
  refine lv_istore (lv' := [(7, .int 0), (6, .int 1), (0, .ref b), (1, .ref x), (2, .ref mo), (3, .ref oA), (4, .ref oD), (5, .int 0)]) hx hb dL_law_1450 hl (by decide) rfl (fun ls hl => ?_)
  refine lv_aload_n hx hb dL_law_1452 rfl (lv_at hl 4 rfl) ?_
  have hPc := hP.sub (ws' := [(mo, .inr (21, [.ref s0, .int 1]))]) [0] rfl
  have hDc := hD.sub (ws' := [(mo, .inr (21, [.ref s0, .int 1]))]) [0] (by decide) rfl
  have hKc := hK.sub (tys' := []) [] rfl
  have hFc := va_free (wc := [(mo, .inr (21, [.ref s0, .int 1]))]) hD hS hA [0] rfl
  refine va_calli (va_runV (As := []) (rest := []) ⟨hx, hb, hml, hown, htl⟩ (c_rm_thrown l dC dI E mo s0 1 H.size) (cwV 0 htl gL_law_X15_thrown rfl rfl rfl (by decide +kernel) ⟨(Nat.le_of_ble_eq_true rfl), (Nat.le_of_ble_eq_true rfl)⟩) ⟨pre_blind, va_recv hKc hPc (ci := 21) (q0 := 0) rfl rfl, pre_call hPc hDc hKc hFc hE hZ hS⟩ rfl rfl hl.1 rfl (lv_room (Nat.le_of_ble_eq_true rfl)) dL_law_1453 ⟨(Nat.le_of_ble_eq_true rfl), (Nat.le_of_ble_eq_true rfl)⟩) hS (fun q _ h => hFc q h) hFc (fun r u t H1 locs1 ht hvm hw hB hz1 hk1 hS => ?_)
  have hw9 : r = 1 := hw
  rw [hw9]
  obtain ⟨hP, hD, hK⟩ := pst_join (wc := [(mo, .inr (21, [.ref s0, .int 1]))]) (wr := []) (w1 := [(mo, .inr (21, [.ref s0, .int 1]))]) (tr := []) (t1 := []) hP hD hK [0] [] [] rfl rfl rfl (by decide) (by decide) hk1 hFc ht hvm hB
  generalize H1 = H at hP hS ⊢
  have hP : va_P (dC, dI) vwCl [(mo, .inr (21, [.ref s0, .int 1]))] H := hP
  have hD : va_D (fun q : Nat => s.heap.size ≤ q) [(mo, .inr (21, [.ref s0, .int 1]))] := hD
  have hK : va_K (dC, dI) vwCl [] s := hK
  refine W.widen (k := 77) (n := 1487) (Nat.le_of_ble_eq_true rfl) (Nat.le_of_ble_eq_true rfl) ?_
  refine lv_iload hx hb dL_law_1456 (lv_at hl 1 rfl) ?_
  refine lv_icmp_eq (tgt := 1463) hx hb dL_law_1458 (by decide) (fun _ => ?_) (fun c9 => absurd (by decide) c9)
  refine lv_iload hx hb dL_law_1463 (lv_at hl 1 rfl) ?_
  refine lv_if_ne (tgt := 1487) hx hb dL_law_1465 (by decide) (fun _ => ?_) (fun c9 => absurd c9 (by decide))
  refine lv_goto (tgt := 1756) hx hb dL_law_1487 (by decide) ?_
  exact law_end C0 hS (lv_sub hl [2, 7] rfl) (Nat.le_of_ble_eq_true rfl) (Nat.le_of_ble_eq_true rfl)

set_option maxHeartbeats 4000000 in
set_option maxRecDepth 100000 in
theorem law_isSafe {p : Program} {l : Launch} {e : Env} {s : State} {m : MethodId} {below : List Frame} {meth : Method} {c : Code} {b : Nat} {xs : Nat → Int32} {dC : Nat → ClassId} {dI : Nat → Nat → Nat} {E : Nat → Nat} {sv1 : Int32} {sv2 : Int32} {sv3 : Int32} {sv4 : Int32} {sk1 : Int32} {sk2 : Int32} {x : Nat} {now : Nat} {fc : Nat} {ro : Nat} {hto : Nat} {de : Nat} {cr : Nat} {co : Nat} {sh : Nat} {eo : Nat} {mo : Nat} {s0 : Nat} {l0 : Nat} {l1 : Nat} {l2 : Nat} {l3 : Nat} {l4 : Nat} {l5 : Nat} {l6 : Nat} {l7 : Nat} {l8 : Nat} {oA : Nat} {oD : Nat} (hst : l.stackTraces = false) (C0 : lw_At p s m meth c b 5 xs) (hE : ev E s) (hZ : es E (fun q : Nat => s.heap.size ≤ q) s s.heap) (hv1 : sv1 = xs (1 : Int32).toNatClampNeg) (hv2 : sv2 = xs (2 : Int32).toNatClampNeg) (hv3 : sv3 = xs (3 : Int32).toNatClampNeg) (hv4 : sv4 = xs (4 : Int32).toNatClampNeg) (hch1 : sk1 = (sv1.toUInt32 % 65536).toInt32) (hch2 : sk2 = (sv2.toUInt32 % 65536).toInt32) {H : Heap} {locs : List Loc} {ls : Array Slot} (hK : va_K (dC, dI) vwCl [] s) (hP : va_P (dC, dI) vwCl [(x, .inr (14, [.ref now, .ref fc])), (now, .inr (13, [.ref ro, .ref hto, .ref de, .ref cr, .ref co, .ref sh, .ref eo, .int 0, .int 0, .int 10, .int 100, .int 50, .int 0, .int 50])), (mo, .inr (21, [.ref s0, .int 0])), (s0, .inr (20, [.ref l0, .ref l1, .ref l2, .ref l3, .ref l4, .ref l5, .ref l6, .ref l7, .ref l8, .int 10, .int 100, .int 50, .int 0, .int 0]))] H) (hD : va_D (fun q : Nat => s.heap.size ≤ q) [(x, .inr (14, [.ref now, .ref fc])), (now, .inr (13, [.ref ro, .ref hto, .ref de, .ref cr, .ref co, .ref sh, .ref eo, .int 0, .int 0, .int 10, .int 100, .int 50, .int 0, .int 50])), (mo, .inr (21, [.ref s0, .int 0])), (s0, .inr (20, [.ref l0, .ref l1, .ref l2, .ref l3, .ref l4, .ref l5, .ref l6, .ref l7, .ref l8, .int 10, .int 100, .int 50, .int 0, .int 0]))]) (hS : va_S (fun q : Nat => s.heap.size ≤ q) s.heap H locs) (hl : lv_has ls 9 [(0, .ref b), (1, .ref x), (2, .ref mo), (3, .ref oA), (4, .ref oD), (5, .int 0)]) : W p l e room_1 s m #[Value.ref b] below meth c H locs 76 1481 (lw_Z below #[Value.ref b] s) (F0 m 1490 ls []) := by
  obtain ⟨hx, hb, hr, hml, hown, hts, hX, hbl, hlocks, hgv⟩ := id C0
  have hA : ∀ q : Nat, s.heap.size ≤ q → (fun q : Nat => s.heap.size ≤ q) q := fun _ h => h
  have hbA : ¬ (fun q : Nat => s.heap.size ≤ q) b := Nat.not_le.mpr hbl
  have hown : s.vm.findClass RL = some m.cls := hown
  have htl : ∀ w ∈ wsL_law, w.before #[Value.ref b] s = true := fun w h => hts w (wsL_law_in w h)
  refine lv_aload_n hx hb dL_law_1490 rfl (lv_at hl 1 rfl) ?_
  have hPc := hP.sub (ws' := [(x, .inr (14, [.ref now, .ref fc])), (now, .inr (13, [.ref ro, .ref hto, .ref de, .ref cr, .ref co, .ref sh, .ref eo, .int 0, .int 0, .int 10, .int 100, .int 50, .int 0, .int 50]))]) [0, 1] rfl
  have hDc := hD.sub (ws' := [(x, .inr (14, [.ref now, .ref fc])), (now, .inr (13, [.ref ro, .ref hto, .ref de, .ref cr, .ref co, .ref sh, .ref eo, .int 0, .int 0, .int 10, .int 100, .int 50, .int 0, .int 50]))]) [0, 1] (by decide) rfl
  have hKc := hK.sub (tys' := []) [] rfl
  have hFc := va_free (wc := [(x, .inr (14, [.ref now, .ref fc])), (now, .inr (13, [.ref ro, .ref hto, .ref de, .ref cr, .ref co, .ref sh, .ref eo, .int 0, .int 0, .int 10, .int 100, .int 50, .int 0, .int 50]))]) hD hS hA [0, 1] rfl
  refine va_calli (va_runV (As := []) (rest := []) ⟨hx, hb, hml, hown, htl⟩ (c_cx_isSafe l dC dI E x now fc ro hto de cr co sh eo H.size) (cwV 0 htl gL_law_X8_isSafe rfl rfl rfl (by decide +kernel) ⟨(Nat.le_of_ble_eq_true rfl), (Nat.le_of_ble_eq_true rfl)⟩) ⟨pre_blind, va_recv hKc hPc (ci := 14) (q0 := 0) rfl rfl, pre_call hPc hDc hKc hFc hE hZ hS⟩ rfl rfl hl.1 rfl (lv_room (Nat.le_of_ble_eq_true rfl)) dL_law_1491 ⟨(Nat.le_of_ble_eq_true rfl), (Nat.le_of_ble_eq_true rfl)⟩) hS (fun q _ h => hFc q h) hFc (fun r u t H1 locs1 ht hvm hw hB hz1 hk1 hS => ?_)
  have hw9 : r = 0 := hw
  rw [hw9]
  obtain ⟨hP, hD, hK⟩ := pst_drop (wc := [(x, .inr (14, [.ref now, .ref fc])), (now, .inr (13, [.ref ro, .ref hto, .ref de, .ref cr, .ref co, .ref sh, .ref eo, .int 0, .int 0, .int 10, .int 100, .int 50, .int 0, .int 50]))]) (wr := [(mo, .inr (21, [.ref s0, .int 0])), (s0, .inr (20, [.ref l0, .ref l1, .ref l2, .ref l3, .ref l4, .ref l5, .ref l6, .ref l7, .ref l8, .int 10, .int 100, .int 50, .int 0, .int 0]))]) (tr := []) hP hD hK [0, 1] [2, 3] [] rfl rfl rfl (by decide) (by decide) hk1 hFc
  generalize H1 = H at hP hS ⊢
  have hP : va_P (dC, dI) vwCl [(mo, .inr (21, [.ref s0, .int 0])), (s0, .inr (20, [.ref l0, .ref l1, .ref l2, .ref l3, .ref l4, .ref l5, .ref l6, .ref l7, .ref l8, .int 10, .int 100, .int 50, .int 0, .int 0]))] H := hP
  have hD : va_D (fun q : Nat => s.heap.size ≤ q) [(mo, .inr (21, [.ref s0, .int 0])), (s0, .inr (20, [.ref l0, .ref l1, .ref l2, .ref l3, .ref l4, .ref l5, .ref l6, .ref l7, .ref l8, .int 10, .int 100, .int 50, .int 0, .int 0]))] := hD
  have hK : va_K (dC, dI) vwCl [] s := hK
  refine W.widen (k := 76) (n := 1481) (Nat.le_of_ble_eq_true rfl) (Nat.le_of_ble_eq_true rfl) ?_
  refine lv_aload_n hx hb dL_law_1494 rfl (lv_at hl 2 rfl) ?_
  have hPc := hP.sub (ws' := [(mo, .inr (21, [.ref s0, .int 0])), (s0, .inr (20, [.ref l0, .ref l1, .ref l2, .ref l3, .ref l4, .ref l5, .ref l6, .ref l7, .ref l8, .int 10, .int 100, .int 50, .int 0, .int 0]))]) [0, 1] rfl
  have hDc := hD.sub (ws' := [(mo, .inr (21, [.ref s0, .int 0])), (s0, .inr (20, [.ref l0, .ref l1, .ref l2, .ref l3, .ref l4, .ref l5, .ref l6, .ref l7, .ref l8, .int 10, .int 100, .int 50, .int 0, .int 0]))]) [0, 1] (by decide) rfl
  have hKc := hK.sub (tys' := []) [] rfl
  have hFc := va_free (wc := [(mo, .inr (21, [.ref s0, .int 0])), (s0, .inr (20, [.ref l0, .ref l1, .ref l2, .ref l3, .ref l4, .ref l5, .ref l6, .ref l7, .ref l8, .int 10, .int 100, .int 50, .int 0, .int 0]))]) hD hS hA [0, 1] rfl
  refine va_calli (va_runV (As := []) (rest := [.int 0]) ⟨hx, hb, hml, hown, htl⟩ (c_rm_isSafe l dC dI E mo s0 l0 l1 l2 l3 l4 l5 l6 l7 l8 0 H.size) (cwV 0 htl gL_law_X15_isSafe rfl rfl rfl (by decide +kernel) ⟨(Nat.le_of_ble_eq_true rfl), (Nat.le_of_ble_eq_true rfl)⟩) ⟨pre_blind, va_recv hKc hPc (ci := 21) (q0 := 0) rfl rfl, pre_call hPc hDc hKc hFc hE hZ hS⟩ rfl rfl hl.1 rfl (lv_room (Nat.le_of_ble_eq_true rfl)) dL_law_1495 ⟨(Nat.le_of_ble_eq_true rfl), (Nat.le_of_ble_eq_true rfl)⟩) hS (fun q _ h => hFc q h) hFc (fun r u t H1 locs1 ht hvm hw hB hz1 hk1 hS => ?_)
  have hw9 : r = 0 := hw
  rw [hw9]
  obtain ⟨hP, hD, hK⟩ := pst_drop (wc := [(mo, .inr (21, [.ref s0, .int 0])), (s0, .inr (20, [.ref l0, .ref l1, .ref l2, .ref l3, .ref l4, .ref l5, .ref l6, .ref l7, .ref l8, .int 10, .int 100, .int 50, .int 0, .int 0]))]) (wr := []) (tr := []) hP hD hK [0, 1] [] [] rfl rfl rfl (by decide) (by decide) hk1 hFc
  generalize H1 = H at hP hS ⊢
  have hP : va_P (dC, dI) vwCl [] H := hP
  have hD : va_D (fun q : Nat => s.heap.size ≤ q) [] := hD
  have hK : va_K (dC, dI) vwCl [] s := hK
  refine W.widen (k := 76) (n := 1481) (Nat.le_of_ble_eq_true rfl) (Nat.le_of_ble_eq_true rfl) ?_
  refine lv_icmp_eq (tgt := 1756) hx hb dL_law_1498 (by decide) (fun _ => ?_) (fun c9 => absurd (by decide) c9)
  exact law_end C0 hS (lv_sub hl [0, 5] rfl) (Nat.le_of_ble_eq_true rfl) (Nat.le_of_ble_eq_true rfl)

set_option maxHeartbeats 4000000 in
set_option maxRecDepth 100000 in
theorem law_events {p : Program} {l : Launch} {e : Env} {s : State} {m : MethodId} {below : List Frame} {meth : Method} {c : Code} {b : Nat} {xs : Nat → Int32} {dC : Nat → ClassId} {dI : Nat → Nat → Nat} {E : Nat → Nat} {sv1 : Int32} {sv2 : Int32} {sv3 : Int32} {sv4 : Int32} {sk1 : Int32} {sk2 : Int32} {x : Nat} {now : Nat} {fc : Nat} {ro : Nat} {hto : Nat} {de : Nat} {cr : Nat} {co : Nat} {sh : Nat} {eo : Nat} {r0 : Nat} {mo : Nat} {s0 : Nat} {l0 : Nat} {l1 : Nat} {l2 : Nat} {l3 : Nat} {l4 : Nat} {l5 : Nat} {l6 : Nat} {l7 : Nat} {l8 : Nat} {oA : Nat} {oD : Nat} (hst : l.stackTraces = false) (C0 : lw_At p s m meth c b 5 xs) (hE : ev E s) (hZ : es E (fun q : Nat => s.heap.size ≤ q) s s.heap) (hv1 : sv1 = xs (1 : Int32).toNatClampNeg) (hv2 : sv2 = xs (2 : Int32).toNatClampNeg) (hv3 : sv3 = xs (3 : Int32).toNatClampNeg) (hv4 : sv4 = xs (4 : Int32).toNatClampNeg) (hch1 : sk1 = (sv1.toUInt32 % 65536).toInt32) (hch2 : sk2 = (sv2.toUInt32 % 65536).toInt32) {H : Heap} {locs : List Loc} {ls : Array Slot} (hK : va_K (dC, dI) vwCl [] s) (hP : va_P (dC, dI) vwCl [(x, .inr (14, [.ref now, .ref fc])), (now, .inr (13, [.ref ro, .ref hto, .ref de, .ref cr, .ref co, .ref sh, .ref eo, .int 0, .int 0, .int 10, .int 100, .int 50, .int 0, .int 50])), (eo, .inr (9, [.ref r0, .int 0])), (mo, .inr (21, [.ref s0, .int 0])), (s0, .inr (20, [.ref l0, .ref l1, .ref l2, .ref l3, .ref l4, .ref l5, .ref l6, .ref l7, .ref l8, .int 10, .int 100, .int 50, .int 0, .int 0])), (l8, .inr (5, [.int 0, .ref (E 0), .int 0]))] H) (hD : va_D (fun q : Nat => s.heap.size ≤ q) [(x, .inr (14, [.ref now, .ref fc])), (now, .inr (13, [.ref ro, .ref hto, .ref de, .ref cr, .ref co, .ref sh, .ref eo, .int 0, .int 0, .int 10, .int 100, .int 50, .int 0, .int 50])), (eo, .inr (9, [.ref r0, .int 0])), (mo, .inr (21, [.ref s0, .int 0])), (s0, .inr (20, [.ref l0, .ref l1, .ref l2, .ref l3, .ref l4, .ref l5, .ref l6, .ref l7, .ref l8, .int 10, .int 100, .int 50, .int 0, .int 0])), (l8, .inr (5, [.int 0, .ref (E 0), .int 0]))]) (hS : va_S (fun q : Nat => s.heap.size ≤ q) s.heap H locs) (hl : lv_has ls 9 [(0, .ref b), (1, .ref x), (2, .ref mo), (3, .ref oA), (4, .ref oD), (5, .int 0)]) : W p l e room_1 s m #[Value.ref b] below meth c H locs 76 1481 (lw_Z below #[Value.ref b] s) (F0 m 1503 ls []) := by
  obtain ⟨hx, hb, hr, hml, hown, hts, hX, hbl, hlocks, hgv⟩ := id C0
  have hA : ∀ q : Nat, s.heap.size ≤ q → (fun q : Nat => s.heap.size ≤ q) q := fun _ h => h
  have hbA : ¬ (fun q : Nat => s.heap.size ≤ q) b := Nat.not_le.mpr hbl
  have hown : s.vm.findClass RL = some m.cls := hown
  have htl : ∀ w ∈ wsL_law, w.before #[Value.ref b] s = true := fun w h => hts w (wsL_law_in w h)
  refine lv_aload_n hx hb dL_law_1503 rfl (lv_at hl 1 rfl) ?_
  have hPc := hP.sub (ws' := [(x, .inr (14, [.ref now, .ref fc])), (now, .inr (13, [.ref ro, .ref hto, .ref de, .ref cr, .ref co, .ref sh, .ref eo, .int 0, .int 0, .int 10, .int 100, .int 50, .int 0, .int 50])), (eo, .inr (9, [.ref r0, .int 0]))]) [0, 1, 2] rfl
  have hDc := hD.sub (ws' := [(x, .inr (14, [.ref now, .ref fc])), (now, .inr (13, [.ref ro, .ref hto, .ref de, .ref cr, .ref co, .ref sh, .ref eo, .int 0, .int 0, .int 10, .int 100, .int 50, .int 0, .int 50])), (eo, .inr (9, [.ref r0, .int 0]))]) [0, 1, 2] (by decide) rfl
  have hKc := hK.sub (tys' := []) [] rfl
  have hFc := va_free (wc := [(x, .inr (14, [.ref now, .ref fc])), (now, .inr (13, [.ref ro, .ref hto, .ref de, .ref cr, .ref co, .ref sh, .ref eo, .int 0, .int 0, .int 10, .int 100, .int 50, .int 0, .int 50])), (eo, .inr (9, [.ref r0, .int 0]))]) hD hS hA [0, 1, 2] rfl
  refine va_calli (va_runV (As := []) (rest := []) ⟨hx, hb, hml, hown, htl⟩ (c_cx_events l dC dI E x now fc ro hto de cr co sh eo r0 H.size) (cwV 0 htl gL_law_X8_events rfl rfl rfl (by decide +kernel) ⟨(Nat.le_of_ble_eq_true rfl), (Nat.le_of_ble_eq_true rfl)⟩) ⟨pre_blind, va_recv hKc hPc (ci := 14) (q0 := 0) rfl rfl, pre_call hPc hDc hKc hFc hE hZ hS⟩ rfl rfl hl.1 rfl (lv_room (Nat.le_of_ble_eq_true rfl)) dL_law_1504 ⟨(Nat.le_of_ble_eq_true rfl), (Nat.le_of_ble_eq_true rfl)⟩) hS (fun q _ h => hFc q h) hFc (fun r u t H1 locs1 ht hvm hw hB hz1 hk1 hS => ?_)
  have hw9 : r = 0 := hw
  rw [hw9]
  obtain ⟨hP, hD, hK⟩ := pst_drop (wc := [(x, .inr (14, [.ref now, .ref fc])), (now, .inr (13, [.ref ro, .ref hto, .ref de, .ref cr, .ref co, .ref sh, .ref eo, .int 0, .int 0, .int 10, .int 100, .int 50, .int 0, .int 50])), (eo, .inr (9, [.ref r0, .int 0]))]) (wr := [(mo, .inr (21, [.ref s0, .int 0])), (s0, .inr (20, [.ref l0, .ref l1, .ref l2, .ref l3, .ref l4, .ref l5, .ref l6, .ref l7, .ref l8, .int 10, .int 100, .int 50, .int 0, .int 0])), (l8, .inr (5, [.int 0, .ref (E 0), .int 0]))]) (tr := []) hP hD hK [0, 1, 2] [3, 4, 5] [] rfl rfl rfl (by decide) (by decide) hk1 hFc
  generalize H1 = H at hP hS ⊢
  have hP : va_P (dC, dI) vwCl [(mo, .inr (21, [.ref s0, .int 0])), (s0, .inr (20, [.ref l0, .ref l1, .ref l2, .ref l3, .ref l4, .ref l5, .ref l6, .ref l7, .ref l8, .int 10, .int 100, .int 50, .int 0, .int 0])), (l8, .inr (5, [.int 0, .ref (E 0), .int 0]))] H := hP
  have hD : va_D (fun q : Nat => s.heap.size ≤ q) [(mo, .inr (21, [.ref s0, .int 0])), (s0, .inr (20, [.ref l0, .ref l1, .ref l2, .ref l3, .ref l4, .ref l5, .ref l6, .ref l7, .ref l8, .int 10, .int 100, .int 50, .int 0, .int 0])), (l8, .inr (5, [.int 0, .ref (E 0), .int 0]))] := hD
  have hK : va_K (dC, dI) vwCl [] s := hK
  refine W.widen (k := 76) (n := 1481) (Nat.le_of_ble_eq_true rfl) (Nat.le_of_ble_eq_true rfl) ?_
  refine lv_aload_n hx hb dL_law_1507 rfl (lv_at hl 2 rfl) ?_
  have hPc := hP.sub (ws' := [(mo, .inr (21, [.ref s0, .int 0])), (s0, .inr (20, [.ref l0, .ref l1, .ref l2, .ref l3, .ref l4, .ref l5, .ref l6, .ref l7, .ref l8, .int 10, .int 100, .int 50, .int 0, .int 0])), (l8, .inr (5, [.int 0, .ref (E 0), .int 0]))]) [0, 1, 2] rfl
  have hDc := hD.sub (ws' := [(mo, .inr (21, [.ref s0, .int 0])), (s0, .inr (20, [.ref l0, .ref l1, .ref l2, .ref l3, .ref l4, .ref l5, .ref l6, .ref l7, .ref l8, .int 10, .int 100, .int 50, .int 0, .int 0])), (l8, .inr (5, [.int 0, .ref (E 0), .int 0]))]) [0, 1, 2] (by decide) rfl
  have hKc := hK.sub (tys' := []) [] rfl
  have hFc := va_free (wc := [(mo, .inr (21, [.ref s0, .int 0])), (s0, .inr (20, [.ref l0, .ref l1, .ref l2, .ref l3, .ref l4, .ref l5, .ref l6, .ref l7, .ref l8, .int 10, .int 100, .int 50, .int 0, .int 0])), (l8, .inr (5, [.int 0, .ref (E 0), .int 0]))]) hD hS hA [0, 1, 2] rfl
  refine va_calli (va_runV (As := []) (rest := [.int 0]) ⟨hx, hb, hml, hown, htl⟩ (c_rm_events l dC dI E mo s0 l0 l1 l2 l3 l4 l5 l6 l7 l8 0 H.size) (cwV 0 htl gL_law_X15_events rfl rfl rfl (by decide +kernel) ⟨(Nat.le_of_ble_eq_true rfl), (Nat.le_of_ble_eq_true rfl)⟩) ⟨pre_blind, va_recv hKc hPc (ci := 21) (q0 := 0) rfl rfl, pre_call hPc hDc hKc hFc hE hZ hS⟩ rfl rfl hl.1 rfl (lv_room (Nat.le_of_ble_eq_true rfl)) dL_law_1508 ⟨(Nat.le_of_ble_eq_true rfl), (Nat.le_of_ble_eq_true rfl)⟩) hS (fun q _ h => hFc q h) hFc (fun r u t H1 locs1 ht hvm hw hB hz1 hk1 hS => ?_)
  have hw9 : r = 0 := hw
  rw [hw9]
  obtain ⟨hP, hD, hK⟩ := pst_drop (wc := [(mo, .inr (21, [.ref s0, .int 0])), (s0, .inr (20, [.ref l0, .ref l1, .ref l2, .ref l3, .ref l4, .ref l5, .ref l6, .ref l7, .ref l8, .int 10, .int 100, .int 50, .int 0, .int 0])), (l8, .inr (5, [.int 0, .ref (E 0), .int 0]))]) (wr := []) (tr := []) hP hD hK [0, 1, 2] [] [] rfl rfl rfl (by decide) (by decide) hk1 hFc
  generalize H1 = H at hP hS ⊢
  have hP : va_P (dC, dI) vwCl [] H := hP
  have hD : va_D (fun q : Nat => s.heap.size ≤ q) [] := hD
  have hK : va_K (dC, dI) vwCl [] s := hK
  refine W.widen (k := 76) (n := 1481) (Nat.le_of_ble_eq_true rfl) (Nat.le_of_ble_eq_true rfl) ?_
  refine lv_icmp_eq (tgt := 1756) hx hb dL_law_1511 (by decide) (fun _ => ?_) (fun c9 => absurd (by decide) c9)
  exact law_end C0 hS (lv_sub hl [0, 5] rfl) (Nat.le_of_ble_eq_true rfl) (Nat.le_of_ble_eq_true rfl)

set_option maxHeartbeats 4000000 in
set_option maxRecDepth 100000 in
theorem law_eventAt {p : Program} {l : Launch} {e : Env} {s : State} {m : MethodId} {below : List Frame} {meth : Method} {c : Code} {b : Nat} {xs : Nat → Int32} {dC : Nat → ClassId} {dI : Nat → Nat → Nat} {E : Nat → Nat} {sv1 : Int32} {sv2 : Int32} {sv3 : Int32} {sv4 : Int32} {sk1 : Int32} {sk2 : Int32} {x : Nat} {now : Nat} {fc : Nat} {ro : Nat} {hto : Nat} {de : Nat} {cr : Nat} {co : Nat} {sh : Nat} {eo : Nat} {r0 : Nat} {mo : Nat} {s0 : Nat} {l0 : Nat} {l1 : Nat} {l2 : Nat} {l3 : Nat} {l4 : Nat} {l5 : Nat} {l6 : Nat} {l7 : Nat} {l8 : Nat} {oA : Nat} {oD : Nat} (hst : l.stackTraces = false) (C0 : lw_At p s m meth c b 5 xs) (hE : ev E s) (hZ : es E (fun q : Nat => s.heap.size ≤ q) s s.heap) (hv1 : sv1 = xs (1 : Int32).toNatClampNeg) (hv2 : sv2 = xs (2 : Int32).toNatClampNeg) (hv3 : sv3 = xs (3 : Int32).toNatClampNeg) (hv4 : sv4 = xs (4 : Int32).toNatClampNeg) (hch1 : sk1 = (sv1.toUInt32 % 65536).toInt32) (hch2 : sk2 = (sv2.toUInt32 % 65536).toInt32) {H : Heap} {locs : List Loc} {ls : Array Slot} (hK : va_K (dC, dI) vwCl [] s) (hP : va_P (dC, dI) vwCl [(x, .inr (14, [.ref now, .ref fc])), (now, .inr (13, [.ref ro, .ref hto, .ref de, .ref cr, .ref co, .ref sh, .ref eo, .int 0, .int 0, .int 10, .int 100, .int 50, .int 0, .int 50])), (eo, .inr (9, [.ref r0, .int 0])), (mo, .inr (21, [.ref s0, .int 0])), (s0, .inr (20, [.ref l0, .ref l1, .ref l2, .ref l3, .ref l4, .ref l5, .ref l6, .ref l7, .ref l8, .int 10, .int 100, .int 50, .int 0, .int 0])), (l8, .inr (5, [.int 0, .ref (E 0), .int 0]))] H) (hD : va_D (fun q : Nat => s.heap.size ≤ q) [(x, .inr (14, [.ref now, .ref fc])), (now, .inr (13, [.ref ro, .ref hto, .ref de, .ref cr, .ref co, .ref sh, .ref eo, .int 0, .int 0, .int 10, .int 100, .int 50, .int 0, .int 50])), (eo, .inr (9, [.ref r0, .int 0])), (mo, .inr (21, [.ref s0, .int 0])), (s0, .inr (20, [.ref l0, .ref l1, .ref l2, .ref l3, .ref l4, .ref l5, .ref l6, .ref l7, .ref l8, .int 10, .int 100, .int 50, .int 0, .int 0])), (l8, .inr (5, [.int 0, .ref (E 0), .int 0]))]) (hS : va_S (fun q : Nat => s.heap.size ≤ q) s.heap H locs) (hl : lv_has ls 9 [(0, .ref b), (1, .ref x), (2, .ref mo), (3, .ref oA), (4, .ref oD), (5, .int 0)]) : W p l e room_1 s m #[Value.ref b] below meth c H locs 76 1481 (lw_Z below #[Value.ref b] s) (F0 m 1516 ls []) := by
  obtain ⟨hx, hb, hr, hml, hown, hts, hX, hbl, hlocks, hgv⟩ := id C0
  have hA : ∀ q : Nat, s.heap.size ≤ q → (fun q : Nat => s.heap.size ≤ q) q := fun _ h => h
  have hbA : ¬ (fun q : Nat => s.heap.size ≤ q) b := Nat.not_le.mpr hbl
  have hown : s.vm.findClass RL = some m.cls := hown
  have htl : ∀ w ∈ wsL_law, w.before #[Value.ref b] s = true := fun w h => hts w (wsL_law_in w h)
  refine lv_aload_n hx hb dL_law_1516 rfl (lv_at hl 1 rfl) ?_
  refine lv_aload_n hx hb dL_law_1517 rfl (lv_at hl 0 rfl) ?_
  refine lv_iload hx hb dL_law_1518 (lv_at hl 5 rfl) ?_
  refine lv_iconst (v := 1) hx hb dL_law_1520 (by decide) ?_
  refine lv_iadd hx hb dL_law_1521 ?_
  refine lv_topi (fun z_1 ez_1 => ?_)
  obtain rfl : z_1 = 1 := ez_1.trans (by decide)
  refine va_sld hx hb hX hbl hbA hS (by unfold vp_in; decide) dL_law_1522 ?_
  refine lv_topi (fun z_2 ez_2 => ?_)
  obtain rfl : sv1 = z_2 := hv1.trans ez_2.symm
  refine lv_aload_n hx hb dL_law_1523 rfl (lv_at hl 3 rfl) ?_
  have hPc := hP.sub (ws' := [(x, .inr (14, [.ref now, .ref fc])), (now, .inr (13, [.ref ro, .ref hto, .ref de, .ref cr, .ref co, .ref sh, .ref eo, .int 0, .int 0, .int 10, .int 100, .int 50, .int 0, .int 50])), (eo, .inr (9, [.ref r0, .int 0]))]) [0, 1, 2] rfl
  have hDc := hD.sub (ws' := [(x, .inr (14, [.ref now, .ref fc])), (now, .inr (13, [.ref ro, .ref hto, .ref de, .ref cr, .ref co, .ref sh, .ref eo, .int 0, .int 0, .int 10, .int 100, .int 50, .int 0, .int 50])), (eo, .inr (9, [.ref r0, .int 0]))]) [0, 1, 2] (by decide) rfl
  have hKc := hK.sub (tys' := []) [] rfl
  have hFc := va_free (wc := [(x, .inr (14, [.ref now, .ref fc])), (now, .inr (13, [.ref ro, .ref hto, .ref de, .ref cr, .ref co, .ref sh, .ref eo, .int 0, .int 0, .int 10, .int 100, .int 50, .int 0, .int 50])), (eo, .inr (9, [.ref r0, .int 0]))]) hD hS hA [0, 1, 2] rfl
  refine vx_calli (vx_runSX (As := [.ref x, .int sv1, .ref oA]) (rest := []) ⟨hx, hb, hml, hown, htl⟩ (c_w_eventAt l hst dC dI E x now fc ro hto de cr co sh eo r0 sv1 oA H.size) (vx_cwSW 3 htl gL_law_L_eventAt rfl rfl rfl (by decide +kernel) ⟨(Nat.le_of_ble_eq_true rfl), (Nat.le_of_ble_eq_true rfl)⟩) ⟨pre_blind, pre_call hPc hDc hKc hFc hE hZ hS⟩ rfl rfl hl.1 rfl (lv_room (Nat.le_of_ble_eq_true rfl)) dL_law_1524 ⟨(Nat.le_of_ble_eq_true rfl), (Nat.le_of_ble_eq_true rfl)⟩) hS (fun q _ h => hFc q h) hFc (fun q _ h => hFc q h) (fun E9 ce q9 u t H1 locs1 ht hvm hw hB hz1 hk1 hS hc9 hv9 hf9 => hw.elim) (fun r u t H1 locs1 ht hvm hw hB hz1 hk1 hS => ?_)
  have hw9 : r = 1 := hw
  rw [hw9]
  obtain ⟨hP, hD, hK⟩ := pst_drop (wc := [(x, .inr (14, [.ref now, .ref fc])), (now, .inr (13, [.ref ro, .ref hto, .ref de, .ref cr, .ref co, .ref sh, .ref eo, .int 0, .int 0, .int 10, .int 100, .int 50, .int 0, .int 50])), (eo, .inr (9, [.ref r0, .int 0]))]) (wr := [(mo, .inr (21, [.ref s0, .int 0])), (s0, .inr (20, [.ref l0, .ref l1, .ref l2, .ref l3, .ref l4, .ref l5, .ref l6, .ref l7, .ref l8, .int 10, .int 100, .int 50, .int 0, .int 0])), (l8, .inr (5, [.int 0, .ref (E 0), .int 0]))]) (tr := []) hP hD hK [0, 1, 2] [3, 4, 5] [] rfl rfl rfl (by decide) (by decide) hk1 hFc
  generalize H1 = H at hP hS ⊢
  have hP : va_P (dC, dI) vwCl [(mo, .inr (21, [.ref s0, .int 0])), (s0, .inr (20, [.ref l0, .ref l1, .ref l2, .ref l3, .ref l4, .ref l5, .ref l6, .ref l7, .ref l8, .int 10, .int 100, .int 50, .int 0, .int 0])), (l8, .inr (5, [.int 0, .ref (E 0), .int 0]))] H := hP
  have hD : va_D (fun q : Nat => s.heap.size ≤ q) [(mo, .inr (21, [.ref s0, .int 0])), (s0, .inr (20, [.ref l0, .ref l1, .ref l2, .ref l3, .ref l4, .ref l5, .ref l6, .ref l7, .ref l8, .int 10, .int 100, .int 50, .int 0, .int 0])), (l8, .inr (5, [.int 0, .ref (E 0), .int 0]))] := hD
  have hK : va_K (dC, dI) vwCl [] s := hK
  refine W.widen (k := 77) (n := 1487) (Nat.le_of_ble_eq_true rfl) (Nat.le_of_ble_eq_true rfl) ?_
  refine lv_istore (lv' := [(6, .int 1), (0, .ref b), (1, .ref x), (2, .ref mo), (3, .ref oA), (4, .ref oD), (5, .int 0)]) hx hb dL_law_1527 hl (by decide) rfl (fun ls hl => ?_)
  refine lv_aload_n hx hb dL_law_1529 rfl (lv_at hl 3 rfl) ?_
  refine lv_aload_n hx hb dL_law_1530 rfl (lv_at hl 1 rfl) ?_
  refine lv_iload hx hb dL_law_1531 (lv_at hl 6 rfl) ?_
  refine lv_iconst (v := 1) hx hb dL_law_1533 (by decide) ?_
  refine lv_iadd hx hb dL_law_1534 ?_
  refine lv_topi (fun z_4 ez_4 => ?_)
  obtain rfl : z_4 = 1 := ez_4.trans (by decide)
  refine va_sld hx hb hX hbl hbA hS (by unfold vp_in; decide) dL_law_1535 ?_
  refine lv_topi (fun z_5 ez_5 => ?_)
  obtain rfl : sv1 = z_5 := hv1.trans ez_5.symm
  have hPc := hP.sub (ws' := [(mo, .inr (21, [.ref s0, .int 0])), (s0, .inr (20, [.ref l0, .ref l1, .ref l2, .ref l3, .ref l4, .ref l5, .ref l6, .ref l7, .ref l8, .int 10, .int 100, .int 50, .int 0, .int 0])), (l8, .inr (5, [.int 0, .ref (E 0), .int 0]))]) [0, 1, 2] rfl
  have hDc := hD.sub (ws' := [(mo, .inr (21, [.ref s0, .int 0])), (s0, .inr (20, [.ref l0, .ref l1, .ref l2, .ref l3, .ref l4, .ref l5, .ref l6, .ref l7, .ref l8, .int 10, .int 100, .int 50, .int 0, .int 0])), (l8, .inr (5, [.int 0, .ref (E 0), .int 0]))]) [0, 1, 2] (by decide) rfl
  have hKc := hK.sub (tys' := []) [] rfl
  have hFc := va_free (wc := [(mo, .inr (21, [.ref s0, .int 0])), (s0, .inr (20, [.ref l0, .ref l1, .ref l2, .ref l3, .ref l4, .ref l5, .ref l6, .ref l7, .ref l8, .int 10, .int 100, .int 50, .int 0, .int 0])), (l8, .inr (5, [.int 0, .ref (E 0), .int 0]))]) hD hS hA [0, 1, 2] rfl
  refine va_calli (va_runV (As := [.int sv1]) (rest := []) ⟨hx, hb, hml, hown, htl⟩ (c_rm_eventAt l dC dI E mo s0 l0 l1 l2 l3 l4 l5 l6 l7 l8 0 sv1 H.size) (cwV 1 htl gL_law_X15_eventAt rfl rfl rfl (by decide +kernel) ⟨(Nat.le_of_ble_eq_true rfl), (Nat.le_of_ble_eq_true rfl)⟩) ⟨pre_blind, va_recv hKc hPc (ci := 21) (q0 := 0) rfl rfl, pre_call hPc hDc hKc hFc hE hZ hS⟩ rfl rfl hl.1 rfl (lv_room (Nat.le_of_ble_eq_true rfl)) dL_law_1536 ⟨(Nat.le_of_ble_eq_true rfl), (Nat.le_of_ble_eq_true rfl)⟩) hS (fun q _ h => hFc q h) hFc (fun r u t H1 locs1 ht hvm hw hB hz1 hk1 hS => ?_)
  have hw9 : r = 0 := hw
  rw [hw9]
  obtain ⟨hP, hD, hK⟩ := pst_join (wc := [(mo, .inr (21, [.ref s0, .int 0])), (s0, .inr (20, [.ref l0, .ref l1, .ref l2, .ref l3, .ref l4, .ref l5, .ref l6, .ref l7, .ref l8, .int 10, .int 100, .int 50, .int 0, .int 0])), (l8, .inr (5, [.int 0, .ref (E 0), .int 0]))]) (wr := []) (w1 := [(mo, .inr (21, [.ref s0, .int 1]))]) (tr := []) (t1 := []) hP hD hK [0, 1, 2] [] [] rfl rfl rfl (by decide) (by decide) hk1 hFc ht hvm hB
  generalize H1 = H at hP hS ⊢
  have hP : va_P (dC, dI) vwCl [(mo, .inr (21, [.ref s0, .int 1]))] H := hP
  have hD : va_D (fun q : Nat => s.heap.size ≤ q) [(mo, .inr (21, [.ref s0, .int 1]))] := hD
  have hK : va_K (dC, dI) vwCl [] s := hK
  refine W.widen (k := 77) (n := 1487) (Nat.le_of_ble_eq_true rfl) (Nat.le_of_ble_eq_true rfl) ?_
  refine lv_istore (lv' := [(7, .int 0), (6, .int 1), (0, .ref b), (1, .ref x), (2, .ref mo), (3, .ref oA), (4, .ref oD), (5, .int 0)]) hx hb dL_law_1539 hl (by decide) rfl (fun ls hl => ?_)
  refine lv_aload_n hx hb dL_law_1541 rfl (lv_at hl 4 rfl) ?_
  have hPc := hP.sub (ws' := [(mo, .inr (21, [.ref s0, .int 1]))]) [0] rfl
  have hDc := hD.sub (ws' := [(mo, .inr (21, [.ref s0, .int 1]))]) [0] (by decide) rfl
  have hKc := hK.sub (tys' := []) [] rfl
  have hFc := va_free (wc := [(mo, .inr (21, [.ref s0, .int 1]))]) hD hS hA [0] rfl
  refine va_calli (va_runV (As := []) (rest := []) ⟨hx, hb, hml, hown, htl⟩ (c_rm_thrown l dC dI E mo s0 1 H.size) (cwV 0 htl gL_law_X15_thrown rfl rfl rfl (by decide +kernel) ⟨(Nat.le_of_ble_eq_true rfl), (Nat.le_of_ble_eq_true rfl)⟩) ⟨pre_blind, va_recv hKc hPc (ci := 21) (q0 := 0) rfl rfl, pre_call hPc hDc hKc hFc hE hZ hS⟩ rfl rfl hl.1 rfl (lv_room (Nat.le_of_ble_eq_true rfl)) dL_law_1542 ⟨(Nat.le_of_ble_eq_true rfl), (Nat.le_of_ble_eq_true rfl)⟩) hS (fun q _ h => hFc q h) hFc (fun r u t H1 locs1 ht hvm hw hB hz1 hk1 hS => ?_)
  have hw9 : r = 1 := hw
  rw [hw9]
  obtain ⟨hP, hD, hK⟩ := pst_join (wc := [(mo, .inr (21, [.ref s0, .int 1]))]) (wr := []) (w1 := [(mo, .inr (21, [.ref s0, .int 1]))]) (tr := []) (t1 := []) hP hD hK [0] [] [] rfl rfl rfl (by decide) (by decide) hk1 hFc ht hvm hB
  generalize H1 = H at hP hS ⊢
  have hP : va_P (dC, dI) vwCl [(mo, .inr (21, [.ref s0, .int 1]))] H := hP
  have hD : va_D (fun q : Nat => s.heap.size ≤ q) [(mo, .inr (21, [.ref s0, .int 1]))] := hD
  have hK : va_K (dC, dI) vwCl [] s := hK
  refine W.widen (k := 77) (n := 1487) (Nat.le_of_ble_eq_true rfl) (Nat.le_of_ble_eq_true rfl) ?_
  refine lv_iload hx hb dL_law_1545 (lv_at hl 1 rfl) ?_
  refine lv_icmp_eq (tgt := 1552) hx hb dL_law_1547 (by decide) (fun _ => ?_) (fun c9 => absurd (by decide) c9)
  refine lv_iload hx hb dL_law_1552 (lv_at hl 1 rfl) ?_
  refine lv_if_ne (tgt := 1569) hx hb dL_law_1554 (by decide) (fun _ => ?_) (fun c9 => absurd c9 (by decide))
  refine lv_goto (tgt := 1756) hx hb dL_law_1569 (by decide) ?_
  exact law_end C0 hS (lv_sub hl [2, 7] rfl) (Nat.le_of_ble_eq_true rfl) (Nat.le_of_ble_eq_true rfl)

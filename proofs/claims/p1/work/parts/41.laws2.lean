set_option maxHeartbeats 4000000 in
set_option maxRecDepth 100000 in
theorem law_addDevice_n {p : Program} {l : Launch} {e : Env} {s : State} {m : MethodId} {below : List Frame} {meth : Method} {c : Code} {b : Nat} {xs : Nat → Int32} {dC : Nat → ClassId} {dI : Nat → Nat → Nat} {E : Nat → Nat} {sv1 : Int32} {sv2 : Int32} {sv3 : Int32} {sv4 : Int32} {sk1 : Int32} {sk2 : Int32} {x : Nat} {now : Nat} {fc : Nat} {ro : Nat} {hto : Nat} {de : Nat} {cr : Nat} {co : Nat} {sh : Nat} {eo : Nat} {a0 : Nat} {a1 : Nat} {a2 : Nat} {mo : Nat} {s0 : Nat} {l0 : Nat} {l1 : Nat} {l2 : Nat} {l3 : Nat} {l4 : Nat} {l5 : Nat} {l6 : Nat} {l7 : Nat} {l8 : Nat} {oA : Nat} {oD : Nat} (hst : l.stackTraces = false) (C0 : lw_At p s m meth c b 5 xs) (hE : ev E s) (hZ : es E (fun q : Nat => s.heap.size ≤ q) s s.heap) (hv1 : sv1 = xs (1 : Int32).toNatClampNeg) (hv2 : sv2 = xs (2 : Int32).toNatClampNeg) (hv3 : sv3 = xs (3 : Int32).toNatClampNeg) (hv4 : sv4 = xs (4 : Int32).toNatClampNeg) (hch1 : sk1 = (sv1.toUInt32 % 65536).toInt32) (hch2 : sk2 = (sv2.toUInt32 % 65536).toInt32) {H : Heap} {locs : List Loc} {ls : Array Slot} (hK : va_K (dC, dI) vwCl [] s) (hP : va_P (dC, dI) vwCl [(x, .inr (14, [.ref now, .ref fc])), (now, .inr (13, [.ref ro, .ref hto, .ref de, .ref cr, .ref co, .ref sh, .ref eo, .int 0, .int 0, .int 10, .int 100, .int 50, .int 0, .int 50])), (ro, .inr (11, [.ref a0, .ref a1, .ref a2, .int 0, .int 0])), (mo, .inr (21, [.ref s0, .int 0])), (s0, .inr (20, [.ref l0, .ref l1, .ref l2, .ref l3, .ref l4, .ref l5, .ref l6, .ref l7, .ref l8, .int 10, .int 100, .int 50, .int 0, .int 0])), (l0, .inr (5, [.int 0, .ref (E 0), .int 0]))] H) (hD : va_D (fun q : Nat => s.heap.size ≤ q) [(x, .inr (14, [.ref now, .ref fc])), (now, .inr (13, [.ref ro, .ref hto, .ref de, .ref cr, .ref co, .ref sh, .ref eo, .int 0, .int 0, .int 10, .int 100, .int 50, .int 0, .int 50])), (ro, .inr (11, [.ref a0, .ref a1, .ref a2, .int 0, .int 0])), (mo, .inr (21, [.ref s0, .int 0])), (s0, .inr (20, [.ref l0, .ref l1, .ref l2, .ref l3, .ref l4, .ref l5, .ref l6, .ref l7, .ref l8, .int 10, .int 100, .int 50, .int 0, .int 0])), (l0, .inr (5, [.int 0, .ref (E 0), .int 0]))]) (hS : va_S (fun q : Nat => s.heap.size ≤ q) s.heap H locs) (hl : lv_has ls 9 [(0, .ref b), (1, .ref x), (2, .ref mo), (3, .ref oA), (4, .ref oD), (5, .int 0)]) (hk : ¬ (sk1 = 115 ∨ sk1 = 101 ∨ sk1 = 108)) : W p l e room_1 s m #[Value.ref b] below meth c H locs 76 1481 (lw_Z below #[Value.ref b] s) (F0 m 467 ls []) := by
  obtain ⟨hx, hb, hr, hml, hown, hts, hX, hbl, hlocks, hgv⟩ := id C0
  have hA : ∀ q : Nat, s.heap.size ≤ q → (fun q : Nat => s.heap.size ≤ q) q := fun _ h => h
  have hbA : ¬ (fun q : Nat => s.heap.size ≤ q) b := Nat.not_le.mpr hbl
  have hown : s.vm.findClass RL = some m.cls := hown
  have htl : ∀ w ∈ wsL_law, w.before #[Value.ref b] s = true := fun w h => hts w (wsL_law_in w h)
  refine lv_aload_n hx hb dL_law_467 rfl (lv_at hl 1 rfl) ?_
  refine lv_aload_n hx hb dL_law_468 rfl (lv_at hl 0 rfl) ?_
  refine lv_iload hx hb dL_law_469 (lv_at hl 5 rfl) ?_
  refine lv_iconst (v := 1) hx hb dL_law_471 (by decide) ?_
  refine lv_iadd hx hb dL_law_472 ?_
  refine lv_topi (fun z_1 ez_1 => ?_)
  obtain rfl : z_1 = 1 := ez_1.trans (by decide)
  refine va_sld hx hb hX hbl hbA hS (by unfold vp_in; decide) dL_law_473 ?_
  refine lv_topi (fun z_2 ez_2 => ?_)
  obtain rfl : sv1 = z_2 := hv1.trans ez_2.symm
  refine lv_i2c hx hb dL_law_474 rfl ?_
  refine lv_topi (fun z_3 ez_3 => ?_)
  obtain rfl : sk1 = z_3 := hch1.trans ez_3.symm
  refine lv_aload_n hx hb dL_law_475 rfl (lv_at hl 0 rfl) ?_
  refine lv_iload hx hb dL_law_476 (lv_at hl 5 rfl) ?_
  refine lv_iconst (v := 2) hx hb dL_law_478 (by decide) ?_
  refine lv_iadd hx hb dL_law_479 ?_
  refine lv_topi (fun z_4 ez_4 => ?_)
  obtain rfl : z_4 = 2 := ez_4.trans (by decide)
  refine va_sld hx hb hX hbl hbA hS (by unfold vp_in; decide) dL_law_480 ?_
  refine lv_topi (fun z_5 ez_5 => ?_)
  obtain rfl : sv2 = z_5 := hv2.trans ez_5.symm
  refine lv_aload_n hx hb dL_law_481 rfl (lv_at hl 3 rfl) ?_
  have hPc := hP.sub (ws' := [(x, .inr (14, [.ref now, .ref fc]))]) [0] rfl
  have hDc := hD.sub (ws' := [(x, .inr (14, [.ref now, .ref fc]))]) [0] (by decide) rfl
  have hKc := hK.sub (tys' := []) [] rfl
  have hFc := va_free (wc := [(x, .inr (14, [.ref now, .ref fc]))]) hD hS hA [0] rfl
  refine vx_calli (vx_runSX (As := [.ref x, .int sk1, .int sv2, .ref oA]) (rest := []) ⟨hx, hb, hml, hown, htl⟩ (c_w_addDevice_n l hst dC dI E x sk1 sv2 oA now fc H.size hk) (vx_cwSW 4 htl gL_law_L_addDevice rfl rfl rfl (by decide +kernel) ⟨(Nat.le_of_ble_eq_true rfl), (Nat.le_of_ble_eq_true rfl)⟩) ⟨pre_blind, pre_call hPc hDc hKc hFc hE hZ hS⟩ rfl rfl hl.1 rfl (lv_room (Nat.le_of_ble_eq_true rfl)) dL_law_482 ⟨(Nat.le_of_ble_eq_true rfl), (Nat.le_of_ble_eq_true rfl)⟩) hS (fun q _ h => hFc q h) hFc (fun q _ h => hFc q h) (fun E9 ce q9 u t H1 locs1 ht hvm hw hB hz1 hk1 hS hc9 hv9 hf9 => hw.elim) (fun r u t H1 locs1 ht hvm hw hB hz1 hk1 hS => ?_)
  have hw9 : r = 1 := hw
  rw [hw9]
  obtain ⟨hP, hD, hK⟩ := pst_drop (wc := [(x, .inr (14, [.ref now, .ref fc]))]) (wr := [(now, .inr (13, [.ref ro, .ref hto, .ref de, .ref cr, .ref co, .ref sh, .ref eo, .int 0, .int 0, .int 10, .int 100, .int 50, .int 0, .int 50])), (ro, .inr (11, [.ref a0, .ref a1, .ref a2, .int 0, .int 0])), (mo, .inr (21, [.ref s0, .int 0])), (s0, .inr (20, [.ref l0, .ref l1, .ref l2, .ref l3, .ref l4, .ref l5, .ref l6, .ref l7, .ref l8, .int 10, .int 100, .int 50, .int 0, .int 0])), (l0, .inr (5, [.int 0, .ref (E 0), .int 0]))]) (tr := []) hP hD hK [0] [1, 2, 3, 4, 5] [] rfl rfl rfl (by decide) (by decide) hk1 hFc
  generalize H1 = H at hP hS ⊢
  have hP : va_P (dC, dI) vwCl [(now, .inr (13, [.ref ro, .ref hto, .ref de, .ref cr, .ref co, .ref sh, .ref eo, .int 0, .int 0, .int 10, .int 100, .int 50, .int 0, .int 50])), (ro, .inr (11, [.ref a0, .ref a1, .ref a2, .int 0, .int 0])), (mo, .inr (21, [.ref s0, .int 0])), (s0, .inr (20, [.ref l0, .ref l1, .ref l2, .ref l3, .ref l4, .ref l5, .ref l6, .ref l7, .ref l8, .int 10, .int 100, .int 50, .int 0, .int 0])), (l0, .inr (5, [.int 0, .ref (E 0), .int 0]))] H := hP
  have hD : va_D (fun q : Nat => s.heap.size ≤ q) [(now, .inr (13, [.ref ro, .ref hto, .ref de, .ref cr, .ref co, .ref sh, .ref eo, .int 0, .int 0, .int 10, .int 100, .int 50, .int 0, .int 50])), (ro, .inr (11, [.ref a0, .ref a1, .ref a2, .int 0, .int 0])), (mo, .inr (21, [.ref s0, .int 0])), (s0, .inr (20, [.ref l0, .ref l1, .ref l2, .ref l3, .ref l4, .ref l5, .ref l6, .ref l7, .ref l8, .int 10, .int 100, .int 50, .int 0, .int 0])), (l0, .inr (5, [.int 0, .ref (E 0), .int 0]))] := hD
  have hK : va_K (dC, dI) vwCl [] s := hK
  refine W.widen (k := 77) (n := 1487) (Nat.le_of_ble_eq_true rfl) (Nat.le_of_ble_eq_true rfl) ?_
  refine lv_istore (lv' := [(6, .int 1), (0, .ref b), (1, .ref x), (2, .ref mo), (3, .ref oA), (4, .ref oD), (5, .int 0)]) hx hb dL_law_485 hl (by decide) rfl (fun ls hl => ?_)
  refine lv_aload_n hx hb dL_law_487 rfl (lv_at hl 3 rfl) ?_
  refine lv_aload_n hx hb dL_law_488 rfl (lv_at hl 1 rfl) ?_
  refine lv_iload hx hb dL_law_489 (lv_at hl 6 rfl) ?_
  refine lv_iconst (v := 1) hx hb dL_law_491 (by decide) ?_
  refine lv_iadd hx hb dL_law_492 ?_
  refine lv_topi (fun z_7 ez_7 => ?_)
  obtain rfl : z_7 = 1 := ez_7.trans (by decide)
  refine va_sld hx hb hX hbl hbA hS (by unfold vp_in; decide) dL_law_493 ?_
  refine lv_topi (fun z_8 ez_8 => ?_)
  obtain rfl : sv1 = z_8 := hv1.trans ez_8.symm
  refine lv_i2c hx hb dL_law_494 rfl ?_
  refine lv_topi (fun z_9 ez_9 => ?_)
  obtain rfl : sk1 = z_9 := hch1.trans ez_9.symm
  refine lv_aload_n hx hb dL_law_495 rfl (lv_at hl 1 rfl) ?_
  refine lv_iload hx hb dL_law_496 (lv_at hl 6 rfl) ?_
  refine lv_iconst (v := 2) hx hb dL_law_498 (by decide) ?_
  refine lv_iadd hx hb dL_law_499 ?_
  refine lv_topi (fun z_10 ez_10 => ?_)
  obtain rfl : z_10 = 2 := ez_10.trans (by decide)
  refine va_sld hx hb hX hbl hbA hS (by unfold vp_in; decide) dL_law_500 ?_
  refine lv_topi (fun z_11 ez_11 => ?_)
  obtain rfl : sv2 = z_11 := hv2.trans ez_11.symm
  have hPc := hP.sub (ws' := [(mo, .inr (21, [.ref s0, .int 0])), (s0, .inr (20, [.ref l0, .ref l1, .ref l2, .ref l3, .ref l4, .ref l5, .ref l6, .ref l7, .ref l8, .int 10, .int 100, .int 50, .int 0, .int 0])), (l0, .inr (5, [.int 0, .ref (E 0), .int 0]))]) [2, 3, 4] rfl
  have hDc := hD.sub (ws' := [(mo, .inr (21, [.ref s0, .int 0])), (s0, .inr (20, [.ref l0, .ref l1, .ref l2, .ref l3, .ref l4, .ref l5, .ref l6, .ref l7, .ref l8, .int 10, .int 100, .int 50, .int 0, .int 0])), (l0, .inr (5, [.int 0, .ref (E 0), .int 0]))]) [2, 3, 4] (by decide) rfl
  have hKc := hK.sub (tys' := []) [] rfl
  have hFc := va_free (wc := [(mo, .inr (21, [.ref s0, .int 0])), (s0, .inr (20, [.ref l0, .ref l1, .ref l2, .ref l3, .ref l4, .ref l5, .ref l6, .ref l7, .ref l8, .int 10, .int 100, .int 50, .int 0, .int 0])), (l0, .inr (5, [.int 0, .ref (E 0), .int 0]))]) hD hS hA [2, 3, 4] rfl
  refine va_calli (va_runV (As := [.int sk1, .int sv2]) (rest := []) ⟨hx, hb, hml, hown, htl⟩ (c_rm_addDevice_n l dC dI E mo s0 l0 l1 l2 l3 l4 l5 l6 l7 l8 0 sk1 sv2 H.size hk) (cwV 2 htl gL_law_X15_addDevice rfl rfl rfl (by decide +kernel) ⟨(Nat.le_of_ble_eq_true rfl), (Nat.le_of_ble_eq_true rfl)⟩) ⟨pre_blind, va_recv hKc hPc (ci := 21) (q0 := 0) rfl rfl, pre_call hPc hDc hKc hFc hE hZ hS⟩ rfl rfl hl.1 rfl (lv_room (Nat.le_of_ble_eq_true rfl)) dL_law_501 ⟨(Nat.le_of_ble_eq_true rfl), (Nat.le_of_ble_eq_true rfl)⟩) hS (fun q _ h => hFc q h) hFc (fun r u t H1 locs1 ht hvm hw hB hz1 hk1 hS => ?_)
  have hw9 : r = 0 := hw
  rw [hw9]
  obtain ⟨hP, hD, hK⟩ := pst_join (wc := [(mo, .inr (21, [.ref s0, .int 0])), (s0, .inr (20, [.ref l0, .ref l1, .ref l2, .ref l3, .ref l4, .ref l5, .ref l6, .ref l7, .ref l8, .int 10, .int 100, .int 50, .int 0, .int 0])), (l0, .inr (5, [.int 0, .ref (E 0), .int 0]))]) (wr := [(now, .inr (13, [.ref ro, .ref hto, .ref de, .ref cr, .ref co, .ref sh, .ref eo, .int 0, .int 0, .int 10, .int 100, .int 50, .int 0, .int 50])), (ro, .inr (11, [.ref a0, .ref a1, .ref a2, .int 0, .int 0]))]) (w1 := [(mo, .inr (21, [.ref s0, .int 1]))]) (tr := []) (t1 := []) hP hD hK [2, 3, 4] [0, 1] [] rfl rfl rfl (by decide) (by decide) hk1 hFc ht hvm hB
  generalize H1 = H at hP hS ⊢
  have hP : va_P (dC, dI) vwCl [(now, .inr (13, [.ref ro, .ref hto, .ref de, .ref cr, .ref co, .ref sh, .ref eo, .int 0, .int 0, .int 10, .int 100, .int 50, .int 0, .int 50])), (ro, .inr (11, [.ref a0, .ref a1, .ref a2, .int 0, .int 0])), (mo, .inr (21, [.ref s0, .int 1]))] H := hP
  have hD : va_D (fun q : Nat => s.heap.size ≤ q) [(now, .inr (13, [.ref ro, .ref hto, .ref de, .ref cr, .ref co, .ref sh, .ref eo, .int 0, .int 0, .int 10, .int 100, .int 50, .int 0, .int 50])), (ro, .inr (11, [.ref a0, .ref a1, .ref a2, .int 0, .int 0])), (mo, .inr (21, [.ref s0, .int 1]))] := hD
  have hK : va_K (dC, dI) vwCl [] s := hK
  refine W.widen (k := 77) (n := 1487) (Nat.le_of_ble_eq_true rfl) (Nat.le_of_ble_eq_true rfl) ?_
  refine lv_istore (lv' := [(7, .int 0), (6, .int 1), (0, .ref b), (1, .ref x), (2, .ref mo), (3, .ref oA), (4, .ref oD), (5, .int 0)]) hx hb dL_law_504 hl (by decide) rfl (fun ls hl => ?_)
  refine lv_aload_n hx hb dL_law_506 rfl (lv_at hl 4 rfl) ?_
  have hPc := hP.sub (ws' := [(mo, .inr (21, [.ref s0, .int 1]))]) [2] rfl
  have hDc := hD.sub (ws' := [(mo, .inr (21, [.ref s0, .int 1]))]) [2] (by decide) rfl
  have hKc := hK.sub (tys' := []) [] rfl
  have hFc := va_free (wc := [(mo, .inr (21, [.ref s0, .int 1]))]) hD hS hA [2] rfl
  refine va_calli (va_runV (As := []) (rest := []) ⟨hx, hb, hml, hown, htl⟩ (c_rm_thrown l dC dI E mo s0 1 H.size) (cwV 0 htl gL_law_X15_thrown rfl rfl rfl (by decide +kernel) ⟨(Nat.le_of_ble_eq_true rfl), (Nat.le_of_ble_eq_true rfl)⟩) ⟨pre_blind, va_recv hKc hPc (ci := 21) (q0 := 0) rfl rfl, pre_call hPc hDc hKc hFc hE hZ hS⟩ rfl rfl hl.1 rfl (lv_room (Nat.le_of_ble_eq_true rfl)) dL_law_507 ⟨(Nat.le_of_ble_eq_true rfl), (Nat.le_of_ble_eq_true rfl)⟩) hS (fun q _ h => hFc q h) hFc (fun r u t H1 locs1 ht hvm hw hB hz1 hk1 hS => ?_)
  have hw9 : r = 1 := hw
  rw [hw9]
  obtain ⟨hP, hD, hK⟩ := pst_join (wc := [(mo, .inr (21, [.ref s0, .int 1]))]) (wr := [(now, .inr (13, [.ref ro, .ref hto, .ref de, .ref cr, .ref co, .ref sh, .ref eo, .int 0, .int 0, .int 10, .int 100, .int 50, .int 0, .int 50])), (ro, .inr (11, [.ref a0, .ref a1, .ref a2, .int 0, .int 0]))]) (w1 := [(mo, .inr (21, [.ref s0, .int 1]))]) (tr := []) (t1 := []) hP hD hK [2] [0, 1] [] rfl rfl rfl (by decide) (by decide) hk1 hFc ht hvm hB
  generalize H1 = H at hP hS ⊢
  have hP : va_P (dC, dI) vwCl [(now, .inr (13, [.ref ro, .ref hto, .ref de, .ref cr, .ref co, .ref sh, .ref eo, .int 0, .int 0, .int 10, .int 100, .int 50, .int 0, .int 50])), (ro, .inr (11, [.ref a0, .ref a1, .ref a2, .int 0, .int 0])), (mo, .inr (21, [.ref s0, .int 1]))] H := hP
  have hD : va_D (fun q : Nat => s.heap.size ≤ q) [(now, .inr (13, [.ref ro, .ref hto, .ref de, .ref cr, .ref co, .ref sh, .ref eo, .int 0, .int 0, .int 10, .int 100, .int 50, .int 0, .int 50])), (ro, .inr (11, [.ref a0, .ref a1, .ref a2, .int 0, .int 0])), (mo, .inr (21, [.ref s0, .int 1]))] := hD
  have hK : va_K (dC, dI) vwCl [] s := hK
  refine W.widen (k := 77) (n := 1487) (Nat.le_of_ble_eq_true rfl) (Nat.le_of_ble_eq_true rfl) ?_
  refine lv_iload hx hb dL_law_510 (lv_at hl 1 rfl) ?_
  refine lv_icmp_eq (tgt := 517) hx hb dL_law_512 (by decide) (fun _ => ?_) (fun c9 => absurd (by decide) c9)
  refine lv_iload hx hb dL_law_517 (lv_at hl 1 rfl) ?_
  refine lv_if_ne (tgt := 534) hx hb dL_law_519 (by decide) (fun _ => ?_) (fun c9 => absurd c9 (by decide))
  refine lv_goto (tgt := 1756) hx hb dL_law_534 (by decide) ?_
  exact law_end C0 hS (lv_sub hl [2, 7] rfl) (Nat.le_of_ble_eq_true rfl) (Nat.le_of_ble_eq_true rfl)

set_option maxHeartbeats 4000000 in
set_option maxRecDepth 100000 in
theorem law_setDevice {p : Program} {l : Launch} {e : Env} {s : State} {m : MethodId} {below : List Frame} {meth : Method} {c : Code} {b : Nat} {xs : Nat → Int32} {dC : Nat → ClassId} {dI : Nat → Nat → Nat} {E : Nat → Nat} {sv1 : Int32} {sv2 : Int32} {sv3 : Int32} {sv4 : Int32} {sk1 : Int32} {sk2 : Int32} {x : Nat} {now : Nat} {fc : Nat} {ro : Nat} {hto : Nat} {de : Nat} {cr : Nat} {co : Nat} {sh : Nat} {eo : Nat} {v0 : Nat} {v1 : Nat} {v2 : Nat} {mo : Nat} {s0 : Nat} {l0 : Nat} {l1 : Nat} {l2 : Nat} {l3 : Nat} {l4 : Nat} {l5 : Nat} {l6 : Nat} {l7 : Nat} {l8 : Nat} {oA : Nat} {oD : Nat} (hst : l.stackTraces = false) (C0 : lw_At p s m meth c b 5 xs) (hE : ev E s) (hZ : es E (fun q : Nat => s.heap.size ≤ q) s s.heap) (hv1 : sv1 = xs (1 : Int32).toNatClampNeg) (hv2 : sv2 = xs (2 : Int32).toNatClampNeg) (hv3 : sv3 = xs (3 : Int32).toNatClampNeg) (hv4 : sv4 = xs (4 : Int32).toNatClampNeg) (hch1 : sk1 = (sv1.toUInt32 % 65536).toInt32) (hch2 : sk2 = (sv2.toUInt32 % 65536).toInt32) {H : Heap} {locs : List Loc} {ls : Array Slot} (hK : va_K (dC, dI) vwCl [] s) (hP : va_P (dC, dI) vwCl [(x, .inr (14, [.ref now, .ref fc])), (now, .inr (13, [.ref ro, .ref hto, .ref de, .ref cr, .ref co, .ref sh, .ref eo, .int 0, .int 0, .int 10, .int 100, .int 50, .int 0, .int 50])), (de, .inr (8, [.ref v0, .ref v1, .ref v2, .int 0, .int (-1)])), (mo, .inr (21, [.ref s0, .int 0])), (s0, .inr (20, [.ref l0, .ref l1, .ref l2, .ref l3, .ref l4, .ref l5, .ref l6, .ref l7, .ref l8, .int 10, .int 100, .int 50, .int 0, .int 0])), (l4, .inr (5, [.int 0, .ref (E 0), .int 0]))] H) (hD : va_D (fun q : Nat => s.heap.size ≤ q) [(x, .inr (14, [.ref now, .ref fc])), (now, .inr (13, [.ref ro, .ref hto, .ref de, .ref cr, .ref co, .ref sh, .ref eo, .int 0, .int 0, .int 10, .int 100, .int 50, .int 0, .int 50])), (de, .inr (8, [.ref v0, .ref v1, .ref v2, .int 0, .int (-1)])), (mo, .inr (21, [.ref s0, .int 0])), (s0, .inr (20, [.ref l0, .ref l1, .ref l2, .ref l3, .ref l4, .ref l5, .ref l6, .ref l7, .ref l8, .int 10, .int 100, .int 50, .int 0, .int 0])), (l4, .inr (5, [.int 0, .ref (E 0), .int 0]))]) (hS : va_S (fun q : Nat => s.heap.size ≤ q) s.heap H locs) (hl : lv_has ls 9 [(0, .ref b), (1, .ref x), (2, .ref mo), (3, .ref oA), (4, .ref oD), (5, .int 0)]) : W p l e room_1 s m #[Value.ref b] below meth c H locs 76 1481 (lw_Z below #[Value.ref b] s) (F0 m 537 ls []) := by
  obtain ⟨hx, hb, hr, hml, hown, hts, hX, hbl, hlocks, hgv⟩ := id C0
  have hA : ∀ q : Nat, s.heap.size ≤ q → (fun q : Nat => s.heap.size ≤ q) q := fun _ h => h
  have hbA : ¬ (fun q : Nat => s.heap.size ≤ q) b := Nat.not_le.mpr hbl
  have hown : s.vm.findClass RL = some m.cls := hown
  have htl : ∀ w ∈ wsL_law, w.before #[Value.ref b] s = true := fun w h => hts w (wsL_law_in w h)
  refine lv_aload_n hx hb dL_law_537 rfl (lv_at hl 1 rfl) ?_
  refine lv_aload_n hx hb dL_law_538 rfl (lv_at hl 0 rfl) ?_
  refine lv_iload hx hb dL_law_539 (lv_at hl 5 rfl) ?_
  refine lv_iconst (v := 1) hx hb dL_law_541 (by decide) ?_
  refine lv_iadd hx hb dL_law_542 ?_
  refine lv_topi (fun z_1 ez_1 => ?_)
  obtain rfl : z_1 = 1 := ez_1.trans (by decide)
  refine va_sld hx hb hX hbl hbA hS (by unfold vp_in; decide) dL_law_543 ?_
  refine lv_topi (fun z_2 ez_2 => ?_)
  obtain rfl : sv1 = z_2 := hv1.trans ez_2.symm
  refine lv_aload_n hx hb dL_law_544 rfl (lv_at hl 0 rfl) ?_
  refine lv_iload hx hb dL_law_545 (lv_at hl 5 rfl) ?_
  refine lv_iconst (v := 2) hx hb dL_law_547 (by decide) ?_
  refine lv_iadd hx hb dL_law_548 ?_
  refine lv_topi (fun z_3 ez_3 => ?_)
  obtain rfl : z_3 = 2 := ez_3.trans (by decide)
  refine va_sld hx hb hX hbl hbA hS (by unfold vp_in; decide) dL_law_549 ?_
  refine lv_topi (fun z_4 ez_4 => ?_)
  obtain rfl : sv2 = z_4 := hv2.trans ez_4.symm
  refine lv_if_eq (tgt := 557) hx hb dL_law_550 (by decide) (fun c_5 => ?_) (fun c_5 => ?_)
  · refine lv_iconst (v := 0) hx hb dL_law_557 (by decide) ?_
    refine lv_aload_n hx hb dL_law_558 rfl (lv_at hl 3 rfl) ?_
    have hPc := hP.sub (ws' := [(x, .inr (14, [.ref now, .ref fc])), (now, .inr (13, [.ref ro, .ref hto, .ref de, .ref cr, .ref co, .ref sh, .ref eo, .int 0, .int 0, .int 10, .int 100, .int 50, .int 0, .int 50])), (de, .inr (8, [.ref v0, .ref v1, .ref v2, .int 0, .int (-1)]))]) [0, 1, 2] rfl
    have hDc := hD.sub (ws' := [(x, .inr (14, [.ref now, .ref fc])), (now, .inr (13, [.ref ro, .ref hto, .ref de, .ref cr, .ref co, .ref sh, .ref eo, .int 0, .int 0, .int 10, .int 100, .int 50, .int 0, .int 50])), (de, .inr (8, [.ref v0, .ref v1, .ref v2, .int 0, .int (-1)]))]) [0, 1, 2] (by decide) rfl
    have hKc := hK.sub (tys' := []) [] rfl
    have hFc := va_free (wc := [(x, .inr (14, [.ref now, .ref fc])), (now, .inr (13, [.ref ro, .ref hto, .ref de, .ref cr, .ref co, .ref sh, .ref eo, .int 0, .int 0, .int 10, .int 100, .int 50, .int 0, .int 50])), (de, .inr (8, [.ref v0, .ref v1, .ref v2, .int 0, .int (-1)]))]) hD hS hA [0, 1, 2] rfl
    refine vx_calli (vx_runSX (As := [.ref x, .int sv1, .int 0, .ref oA]) (rest := []) ⟨hx, hb, hml, hown, htl⟩ (c_w_setDevice l hst dC dI E x now fc ro hto de cr co sh eo v0 v1 v2 sv1 0 oA H.size) (vx_cwSW 4 htl gL_law_L_setDevice rfl rfl rfl (by decide +kernel) ⟨(Nat.le_of_ble_eq_true rfl), (Nat.le_of_ble_eq_true rfl)⟩) ⟨pre_blind, pre_call hPc hDc hKc hFc hE hZ hS⟩ rfl rfl hl.1 rfl (lv_room (Nat.le_of_ble_eq_true rfl)) dL_law_559 ⟨(Nat.le_of_ble_eq_true rfl), (Nat.le_of_ble_eq_true rfl)⟩) hS (fun q _ h => hFc q h) hFc (fun q _ h => hFc q h) (fun E9 ce q9 u t H1 locs1 ht hvm hw hB hz1 hk1 hS hc9 hv9 hf9 => hw.elim) (fun r u t H1 locs1 ht hvm hw hB hz1 hk1 hS => ?_)
    have hw9 : r = 1 := hw
    rw [hw9]
    obtain ⟨hP, hD, hK⟩ := pst_drop (wc := [(x, .inr (14, [.ref now, .ref fc])), (now, .inr (13, [.ref ro, .ref hto, .ref de, .ref cr, .ref co, .ref sh, .ref eo, .int 0, .int 0, .int 10, .int 100, .int 50, .int 0, .int 50])), (de, .inr (8, [.ref v0, .ref v1, .ref v2, .int 0, .int (-1)]))]) (wr := [(mo, .inr (21, [.ref s0, .int 0])), (s0, .inr (20, [.ref l0, .ref l1, .ref l2, .ref l3, .ref l4, .ref l5, .ref l6, .ref l7, .ref l8, .int 10, .int 100, .int 50, .int 0, .int 0])), (l4, .inr (5, [.int 0, .ref (E 0), .int 0]))]) (tr := []) hP hD hK [0, 1, 2] [3, 4, 5] [] rfl rfl rfl (by decide) (by decide) hk1 hFc
    generalize H1 = H at hP hS ⊢
    have hP : va_P (dC, dI) vwCl [(mo, .inr (21, [.ref s0, .int 0])), (s0, .inr (20, [.ref l0, .ref l1, .ref l2, .ref l3, .ref l4, .ref l5, .ref l6, .ref l7, .ref l8, .int 10, .int 100, .int 50, .int 0, .int 0])), (l4, .inr (5, [.int 0, .ref (E 0), .int 0]))] H := hP
    have hD : va_D (fun q : Nat => s.heap.size ≤ q) [(mo, .inr (21, [.ref s0, .int 0])), (s0, .inr (20, [.ref l0, .ref l1, .ref l2, .ref l3, .ref l4, .ref l5, .ref l6, .ref l7, .ref l8, .int 10, .int 100, .int 50, .int 0, .int 0])), (l4, .inr (5, [.int 0, .ref (E 0), .int 0]))] := hD
    have hK : va_K (dC, dI) vwCl [] s := hK
    refine W.widen (k := 77) (n := 1487) (Nat.le_of_ble_eq_true rfl) (Nat.le_of_ble_eq_true rfl) ?_
    refine lv_istore (lv' := [(6, .int 1), (0, .ref b), (1, .ref x), (2, .ref mo), (3, .ref oA), (4, .ref oD), (5, .int 0)]) hx hb dL_law_562 hl (by decide) rfl (fun ls hl => ?_)
    refine lv_aload_n hx hb dL_law_564 rfl (lv_at hl 3 rfl) ?_
    refine lv_aload_n hx hb dL_law_565 rfl (lv_at hl 1 rfl) ?_
    refine lv_iload hx hb dL_law_566 (lv_at hl 6 rfl) ?_
    refine lv_iconst (v := 1) hx hb dL_law_568 (by decide) ?_
    refine lv_iadd hx hb dL_law_569 ?_
    refine lv_topi (fun z_7 ez_7 => ?_)
    obtain rfl : z_7 = 1 := ez_7.trans (by decide)
    refine va_sld hx hb hX hbl hbA hS (by unfold vp_in; decide) dL_law_570 ?_
    refine lv_topi (fun z_8 ez_8 => ?_)
    obtain rfl : sv1 = z_8 := hv1.trans ez_8.symm
    refine lv_aload_n hx hb dL_law_571 rfl (lv_at hl 1 rfl) ?_
    refine lv_iload hx hb dL_law_572 (lv_at hl 6 rfl) ?_
    refine lv_iconst (v := 2) hx hb dL_law_574 (by decide) ?_
    refine lv_iadd hx hb dL_law_575 ?_
    refine lv_topi (fun z_9 ez_9 => ?_)
    obtain rfl : z_9 = 2 := ez_9.trans (by decide)
    refine va_sld hx hb hX hbl hbA hS (by unfold vp_in; decide) dL_law_576 ?_
    refine lv_topi (fun z_10 ez_10 => ?_)
    obtain rfl : sv2 = z_10 := hv2.trans ez_10.symm
    refine lv_if_eq (tgt := 584) hx hb dL_law_577 (by decide) (fun c_11 => ?_) (fun c_11 => ?_)
    · refine lv_iconst (v := 0) hx hb dL_law_584 (by decide) ?_
      have hPc := hP.sub (ws' := [(mo, .inr (21, [.ref s0, .int 0])), (s0, .inr (20, [.ref l0, .ref l1, .ref l2, .ref l3, .ref l4, .ref l5, .ref l6, .ref l7, .ref l8, .int 10, .int 100, .int 50, .int 0, .int 0])), (l4, .inr (5, [.int 0, .ref (E 0), .int 0]))]) [0, 1, 2] rfl
      have hDc := hD.sub (ws' := [(mo, .inr (21, [.ref s0, .int 0])), (s0, .inr (20, [.ref l0, .ref l1, .ref l2, .ref l3, .ref l4, .ref l5, .ref l6, .ref l7, .ref l8, .int 10, .int 100, .int 50, .int 0, .int 0])), (l4, .inr (5, [.int 0, .ref (E 0), .int 0]))]) [0, 1, 2] (by decide) rfl
      have hKc := hK.sub (tys' := []) [] rfl
      have hFc := va_free (wc := [(mo, .inr (21, [.ref s0, .int 0])), (s0, .inr (20, [.ref l0, .ref l1, .ref l2, .ref l3, .ref l4, .ref l5, .ref l6, .ref l7, .ref l8, .int 10, .int 100, .int 50, .int 0, .int 0])), (l4, .inr (5, [.int 0, .ref (E 0), .int 0]))]) hD hS hA [0, 1, 2] rfl
      refine va_calli (va_runV (As := [.int sv1, .int 0]) (rest := []) ⟨hx, hb, hml, hown, htl⟩ (c_rm_setDevice l dC dI E mo s0 l0 l1 l2 l3 l4 l5 l6 l7 l8 0 sv1 0 H.size) (cwV 2 htl gL_law_X15_setDevice rfl rfl rfl (by decide +kernel) ⟨(Nat.le_of_ble_eq_true rfl), (Nat.le_of_ble_eq_true rfl)⟩) ⟨pre_blind, va_recv hKc hPc (ci := 21) (q0 := 0) rfl rfl, pre_call hPc hDc hKc hFc hE hZ hS⟩ rfl rfl hl.1 rfl (lv_room (Nat.le_of_ble_eq_true rfl)) dL_law_585 ⟨(Nat.le_of_ble_eq_true rfl), (Nat.le_of_ble_eq_true rfl)⟩) hS (fun q _ h => hFc q h) hFc (fun r u t H1 locs1 ht hvm hw hB hz1 hk1 hS => ?_)
      have hw9 : r = 0 := hw
      rw [hw9]
      obtain ⟨hP, hD, hK⟩ := pst_join (wc := [(mo, .inr (21, [.ref s0, .int 0])), (s0, .inr (20, [.ref l0, .ref l1, .ref l2, .ref l3, .ref l4, .ref l5, .ref l6, .ref l7, .ref l8, .int 10, .int 100, .int 50, .int 0, .int 0])), (l4, .inr (5, [.int 0, .ref (E 0), .int 0]))]) (wr := []) (w1 := [(mo, .inr (21, [.ref s0, .int 1]))]) (tr := []) (t1 := []) hP hD hK [0, 1, 2] [] [] rfl rfl rfl (by decide) (by decide) hk1 hFc ht hvm hB
      generalize H1 = H at hP hS ⊢
      have hP : va_P (dC, dI) vwCl [(mo, .inr (21, [.ref s0, .int 1]))] H := hP
      have hD : va_D (fun q : Nat => s.heap.size ≤ q) [(mo, .inr (21, [.ref s0, .int 1]))] := hD
      have hK : va_K (dC, dI) vwCl [] s := hK
      refine W.widen (k := 77) (n := 1487) (Nat.le_of_ble_eq_true rfl) (Nat.le_of_ble_eq_true rfl) ?_
      refine lv_istore (lv' := [(7, .int 0), (6, .int 1), (0, .ref b), (1, .ref x), (2, .ref mo), (3, .ref oA), (4, .ref oD), (5, .int 0)]) hx hb dL_law_588 hl (by decide) rfl (fun ls hl => ?_)
      refine lv_aload_n hx hb dL_law_590 rfl (lv_at hl 4 rfl) ?_
      have hPc := hP.sub (ws' := [(mo, .inr (21, [.ref s0, .int 1]))]) [0] rfl
      have hDc := hD.sub (ws' := [(mo, .inr (21, [.ref s0, .int 1]))]) [0] (by decide) rfl
      have hKc := hK.sub (tys' := []) [] rfl
      have hFc := va_free (wc := [(mo, .inr (21, [.ref s0, .int 1]))]) hD hS hA [0] rfl
      refine va_calli (va_runV (As := []) (rest := []) ⟨hx, hb, hml, hown, htl⟩ (c_rm_thrown l dC dI E mo s0 1 H.size) (cwV 0 htl gL_law_X15_thrown rfl rfl rfl (by decide +kernel) ⟨(Nat.le_of_ble_eq_true rfl), (Nat.le_of_ble_eq_true rfl)⟩) ⟨pre_blind, va_recv hKc hPc (ci := 21) (q0 := 0) rfl rfl, pre_call hPc hDc hKc hFc hE hZ hS⟩ rfl rfl hl.1 rfl (lv_room (Nat.le_of_ble_eq_true rfl)) dL_law_591 ⟨(Nat.le_of_ble_eq_true rfl), (Nat.le_of_ble_eq_true rfl)⟩) hS (fun q _ h => hFc q h) hFc (fun r u t H1 locs1 ht hvm hw hB hz1 hk1 hS => ?_)
      have hw9 : r = 1 := hw
      rw [hw9]
      obtain ⟨hP, hD, hK⟩ := pst_join (wc := [(mo, .inr (21, [.ref s0, .int 1]))]) (wr := []) (w1 := [(mo, .inr (21, [.ref s0, .int 1]))]) (tr := []) (t1 := []) hP hD hK [0] [] [] rfl rfl rfl (by decide) (by decide) hk1 hFc ht hvm hB
      generalize H1 = H at hP hS ⊢
      have hP : va_P (dC, dI) vwCl [(mo, .inr (21, [.ref s0, .int 1]))] H := hP
      have hD : va_D (fun q : Nat => s.heap.size ≤ q) [(mo, .inr (21, [.ref s0, .int 1]))] := hD
      have hK : va_K (dC, dI) vwCl [] s := hK
      refine W.widen (k := 77) (n := 1487) (Nat.le_of_ble_eq_true rfl) (Nat.le_of_ble_eq_true rfl) ?_
      refine lv_iload hx hb dL_law_594 (lv_at hl 1 rfl) ?_
      refine lv_icmp_eq (tgt := 601) hx hb dL_law_596 (by decide) (fun _ => ?_) (fun c9 => absurd (by decide) c9)
      refine lv_iload hx hb dL_law_601 (lv_at hl 1 rfl) ?_
      refine lv_if_ne (tgt := 625) hx hb dL_law_603 (by decide) (fun _ => ?_) (fun c9 => absurd c9 (by decide))
      refine lv_goto (tgt := 1756) hx hb dL_law_625 (by decide) ?_
      exact law_end C0 hS (lv_sub hl [2, 7] rfl) (Nat.le_of_ble_eq_true rfl) (Nat.le_of_ble_eq_true rfl)
    · refine lv_iconst (v := 1) hx hb dL_law_580 (by decide) ?_
      refine lv_goto (tgt := 585) hx hb dL_law_581 (by decide) ?_
      have hPc := hP.sub (ws' := [(mo, .inr (21, [.ref s0, .int 0])), (s0, .inr (20, [.ref l0, .ref l1, .ref l2, .ref l3, .ref l4, .ref l5, .ref l6, .ref l7, .ref l8, .int 10, .int 100, .int 50, .int 0, .int 0])), (l4, .inr (5, [.int 0, .ref (E 0), .int 0]))]) [0, 1, 2] rfl
      have hDc := hD.sub (ws' := [(mo, .inr (21, [.ref s0, .int 0])), (s0, .inr (20, [.ref l0, .ref l1, .ref l2, .ref l3, .ref l4, .ref l5, .ref l6, .ref l7, .ref l8, .int 10, .int 100, .int 50, .int 0, .int 0])), (l4, .inr (5, [.int 0, .ref (E 0), .int 0]))]) [0, 1, 2] (by decide) rfl
      have hKc := hK.sub (tys' := []) [] rfl
      have hFc := va_free (wc := [(mo, .inr (21, [.ref s0, .int 0])), (s0, .inr (20, [.ref l0, .ref l1, .ref l2, .ref l3, .ref l4, .ref l5, .ref l6, .ref l7, .ref l8, .int 10, .int 100, .int 50, .int 0, .int 0])), (l4, .inr (5, [.int 0, .ref (E 0), .int 0]))]) hD hS hA [0, 1, 2] rfl
      refine va_calli (va_runV (As := [.int sv1, .int 1]) (rest := []) ⟨hx, hb, hml, hown, htl⟩ (c_rm_setDevice l dC dI E mo s0 l0 l1 l2 l3 l4 l5 l6 l7 l8 0 sv1 1 H.size) (cwV 2 htl gL_law_X15_setDevice rfl rfl rfl (by decide +kernel) ⟨(Nat.le_of_ble_eq_true rfl), (Nat.le_of_ble_eq_true rfl)⟩) ⟨pre_blind, va_recv hKc hPc (ci := 21) (q0 := 0) rfl rfl, pre_call hPc hDc hKc hFc hE hZ hS⟩ rfl rfl hl.1 rfl (lv_room (Nat.le_of_ble_eq_true rfl)) dL_law_585 ⟨(Nat.le_of_ble_eq_true rfl), (Nat.le_of_ble_eq_true rfl)⟩) hS (fun q _ h => hFc q h) hFc (fun r u t H1 locs1 ht hvm hw hB hz1 hk1 hS => ?_)
      have hw9 : r = 0 := hw
      rw [hw9]
      obtain ⟨hP, hD, hK⟩ := pst_join (wc := [(mo, .inr (21, [.ref s0, .int 0])), (s0, .inr (20, [.ref l0, .ref l1, .ref l2, .ref l3, .ref l4, .ref l5, .ref l6, .ref l7, .ref l8, .int 10, .int 100, .int 50, .int 0, .int 0])), (l4, .inr (5, [.int 0, .ref (E 0), .int 0]))]) (wr := []) (w1 := [(mo, .inr (21, [.ref s0, .int 1]))]) (tr := []) (t1 := []) hP hD hK [0, 1, 2] [] [] rfl rfl rfl (by decide) (by decide) hk1 hFc ht hvm hB
      generalize H1 = H at hP hS ⊢
      have hP : va_P (dC, dI) vwCl [(mo, .inr (21, [.ref s0, .int 1]))] H := hP
      have hD : va_D (fun q : Nat => s.heap.size ≤ q) [(mo, .inr (21, [.ref s0, .int 1]))] := hD
      have hK : va_K (dC, dI) vwCl [] s := hK
      refine W.widen (k := 77) (n := 1487) (Nat.le_of_ble_eq_true rfl) (Nat.le_of_ble_eq_true rfl) ?_
      refine lv_istore (lv' := [(7, .int 0), (6, .int 1), (0, .ref b), (1, .ref x), (2, .ref mo), (3, .ref oA), (4, .ref oD), (5, .int 0)]) hx hb dL_law_588 hl (by decide) rfl (fun ls hl => ?_)
      refine lv_aload_n hx hb dL_law_590 rfl (lv_at hl 4 rfl) ?_
      have hPc := hP.sub (ws' := [(mo, .inr (21, [.ref s0, .int 1]))]) [0] rfl
      have hDc := hD.sub (ws' := [(mo, .inr (21, [.ref s0, .int 1]))]) [0] (by decide) rfl
      have hKc := hK.sub (tys' := []) [] rfl
      have hFc := va_free (wc := [(mo, .inr (21, [.ref s0, .int 1]))]) hD hS hA [0] rfl
      refine va_calli (va_runV (As := []) (rest := []) ⟨hx, hb, hml, hown, htl⟩ (c_rm_thrown l dC dI E mo s0 1 H.size) (cwV 0 htl gL_law_X15_thrown rfl rfl rfl (by decide +kernel) ⟨(Nat.le_of_ble_eq_true rfl), (Nat.le_of_ble_eq_true rfl)⟩) ⟨pre_blind, va_recv hKc hPc (ci := 21) (q0 := 0) rfl rfl, pre_call hPc hDc hKc hFc hE hZ hS⟩ rfl rfl hl.1 rfl (lv_room (Nat.le_of_ble_eq_true rfl)) dL_law_591 ⟨(Nat.le_of_ble_eq_true rfl), (Nat.le_of_ble_eq_true rfl)⟩) hS (fun q _ h => hFc q h) hFc (fun r u t H1 locs1 ht hvm hw hB hz1 hk1 hS => ?_)
      have hw9 : r = 1 := hw
      rw [hw9]
      obtain ⟨hP, hD, hK⟩ := pst_join (wc := [(mo, .inr (21, [.ref s0, .int 1]))]) (wr := []) (w1 := [(mo, .inr (21, [.ref s0, .int 1]))]) (tr := []) (t1 := []) hP hD hK [0] [] [] rfl rfl rfl (by decide) (by decide) hk1 hFc ht hvm hB
      generalize H1 = H at hP hS ⊢
      have hP : va_P (dC, dI) vwCl [(mo, .inr (21, [.ref s0, .int 1]))] H := hP
      have hD : va_D (fun q : Nat => s.heap.size ≤ q) [(mo, .inr (21, [.ref s0, .int 1]))] := hD
      have hK : va_K (dC, dI) vwCl [] s := hK
      refine W.widen (k := 77) (n := 1487) (Nat.le_of_ble_eq_true rfl) (Nat.le_of_ble_eq_true rfl) ?_
      refine lv_iload hx hb dL_law_594 (lv_at hl 1 rfl) ?_
      refine lv_icmp_eq (tgt := 601) hx hb dL_law_596 (by decide) (fun _ => ?_) (fun c9 => absurd (by decide) c9)
      refine lv_iload hx hb dL_law_601 (lv_at hl 1 rfl) ?_
      refine lv_if_ne (tgt := 625) hx hb dL_law_603 (by decide) (fun _ => ?_) (fun c9 => absurd c9 (by decide))
      refine lv_goto (tgt := 1756) hx hb dL_law_625 (by decide) ?_
      exact law_end C0 hS (lv_sub hl [2, 7] rfl) (Nat.le_of_ble_eq_true rfl) (Nat.le_of_ble_eq_true rfl)
  · refine lv_iconst (v := 1) hx hb dL_law_553 (by decide) ?_
    refine lv_goto (tgt := 558) hx hb dL_law_554 (by decide) ?_
    refine lv_aload_n hx hb dL_law_558 rfl (lv_at hl 3 rfl) ?_
    have hPc := hP.sub (ws' := [(x, .inr (14, [.ref now, .ref fc])), (now, .inr (13, [.ref ro, .ref hto, .ref de, .ref cr, .ref co, .ref sh, .ref eo, .int 0, .int 0, .int 10, .int 100, .int 50, .int 0, .int 50])), (de, .inr (8, [.ref v0, .ref v1, .ref v2, .int 0, .int (-1)]))]) [0, 1, 2] rfl
    have hDc := hD.sub (ws' := [(x, .inr (14, [.ref now, .ref fc])), (now, .inr (13, [.ref ro, .ref hto, .ref de, .ref cr, .ref co, .ref sh, .ref eo, .int 0, .int 0, .int 10, .int 100, .int 50, .int 0, .int 50])), (de, .inr (8, [.ref v0, .ref v1, .ref v2, .int 0, .int (-1)]))]) [0, 1, 2] (by decide) rfl
    have hKc := hK.sub (tys' := []) [] rfl
    have hFc := va_free (wc := [(x, .inr (14, [.ref now, .ref fc])), (now, .inr (13, [.ref ro, .ref hto, .ref de, .ref cr, .ref co, .ref sh, .ref eo, .int 0, .int 0, .int 10, .int 100, .int 50, .int 0, .int 50])), (de, .inr (8, [.ref v0, .ref v1, .ref v2, .int 0, .int (-1)]))]) hD hS hA [0, 1, 2] rfl
    refine vx_calli (vx_runSX (As := [.ref x, .int sv1, .int 1, .ref oA]) (rest := []) ⟨hx, hb, hml, hown, htl⟩ (c_w_setDevice l hst dC dI E x now fc ro hto de cr co sh eo v0 v1 v2 sv1 1 oA H.size) (vx_cwSW 4 htl gL_law_L_setDevice rfl rfl rfl (by decide +kernel) ⟨(Nat.le_of_ble_eq_true rfl), (Nat.le_of_ble_eq_true rfl)⟩) ⟨pre_blind, pre_call hPc hDc hKc hFc hE hZ hS⟩ rfl rfl hl.1 rfl (lv_room (Nat.le_of_ble_eq_true rfl)) dL_law_559 ⟨(Nat.le_of_ble_eq_true rfl), (Nat.le_of_ble_eq_true rfl)⟩) hS (fun q _ h => hFc q h) hFc (fun q _ h => hFc q h) (fun E9 ce q9 u t H1 locs1 ht hvm hw hB hz1 hk1 hS hc9 hv9 hf9 => hw.elim) (fun r u t H1 locs1 ht hvm hw hB hz1 hk1 hS => ?_)
    have hw9 : r = 1 := hw
    rw [hw9]
    obtain ⟨hP, hD, hK⟩ := pst_drop (wc := [(x, .inr (14, [.ref now, .ref fc])), (now, .inr (13, [.ref ro, .ref hto, .ref de, .ref cr, .ref co, .ref sh, .ref eo, .int 0, .int 0, .int 10, .int 100, .int 50, .int 0, .int 50])), (de, .inr (8, [.ref v0, .ref v1, .ref v2, .int 0, .int (-1)]))]) (wr := [(mo, .inr (21, [.ref s0, .int 0])), (s0, .inr (20, [.ref l0, .ref l1, .ref l2, .ref l3, .ref l4, .ref l5, .ref l6, .ref l7, .ref l8, .int 10, .int 100, .int 50, .int 0, .int 0])), (l4, .inr (5, [.int 0, .ref (E 0), .int 0]))]) (tr := []) hP hD hK [0, 1, 2] [3, 4, 5] [] rfl rfl rfl (by decide) (by decide) hk1 hFc
    generalize H1 = H at hP hS ⊢
    have hP : va_P (dC, dI) vwCl [(mo, .inr (21, [.ref s0, .int 0])), (s0, .inr (20, [.ref l0, .ref l1, .ref l2, .ref l3, .ref l4, .ref l5, .ref l6, .ref l7, .ref l8, .int 10, .int 100, .int 50, .int 0, .int 0])), (l4, .inr (5, [.int 0, .ref (E 0), .int 0]))] H := hP
    have hD : va_D (fun q : Nat => s.heap.size ≤ q) [(mo, .inr (21, [.ref s0, .int 0])), (s0, .inr (20, [.ref l0, .ref l1, .ref l2, .ref l3, .ref l4, .ref l5, .ref l6, .ref l7, .ref l8, .int 10, .int 100, .int 50, .int 0, .int 0])), (l4, .inr (5, [.int 0, .ref (E 0), .int 0]))] := hD
    have hK : va_K (dC, dI) vwCl [] s := hK
    refine W.widen (k := 77) (n := 1487) (Nat.le_of_ble_eq_true rfl) (Nat.le_of_ble_eq_true rfl) ?_
    refine lv_istore (lv' := [(6, .int 1), (0, .ref b), (1, .ref x), (2, .ref mo), (3, .ref oA), (4, .ref oD), (5, .int 0)]) hx hb dL_law_562 hl (by decide) rfl (fun ls hl => ?_)
    refine lv_aload_n hx hb dL_law_564 rfl (lv_at hl 3 rfl) ?_
    refine lv_aload_n hx hb dL_law_565 rfl (lv_at hl 1 rfl) ?_
    refine lv_iload hx hb dL_law_566 (lv_at hl 6 rfl) ?_
    refine lv_iconst (v := 1) hx hb dL_law_568 (by decide) ?_
    refine lv_iadd hx hb dL_law_569 ?_
    refine lv_topi (fun z_21 ez_21 => ?_)
    obtain rfl : z_21 = 1 := ez_21.trans (by decide)
    refine va_sld hx hb hX hbl hbA hS (by unfold vp_in; decide) dL_law_570 ?_
    refine lv_topi (fun z_22 ez_22 => ?_)
    obtain rfl : sv1 = z_22 := hv1.trans ez_22.symm
    refine lv_aload_n hx hb dL_law_571 rfl (lv_at hl 1 rfl) ?_
    refine lv_iload hx hb dL_law_572 (lv_at hl 6 rfl) ?_
    refine lv_iconst (v := 2) hx hb dL_law_574 (by decide) ?_
    refine lv_iadd hx hb dL_law_575 ?_
    refine lv_topi (fun z_23 ez_23 => ?_)
    obtain rfl : z_23 = 2 := ez_23.trans (by decide)
    refine va_sld hx hb hX hbl hbA hS (by unfold vp_in; decide) dL_law_576 ?_
    refine lv_topi (fun z_24 ez_24 => ?_)
    obtain rfl : sv2 = z_24 := hv2.trans ez_24.symm
    refine lv_if_eq (tgt := 584) hx hb dL_law_577 (by decide) (fun c_25 => ?_) (fun c_25 => ?_)
    · refine lv_iconst (v := 0) hx hb dL_law_584 (by decide) ?_
      have hPc := hP.sub (ws' := [(mo, .inr (21, [.ref s0, .int 0])), (s0, .inr (20, [.ref l0, .ref l1, .ref l2, .ref l3, .ref l4, .ref l5, .ref l6, .ref l7, .ref l8, .int 10, .int 100, .int 50, .int 0, .int 0])), (l4, .inr (5, [.int 0, .ref (E 0), .int 0]))]) [0, 1, 2] rfl
      have hDc := hD.sub (ws' := [(mo, .inr (21, [.ref s0, .int 0])), (s0, .inr (20, [.ref l0, .ref l1, .ref l2, .ref l3, .ref l4, .ref l5, .ref l6, .ref l7, .ref l8, .int 10, .int 100, .int 50, .int 0, .int 0])), (l4, .inr (5, [.int 0, .ref (E 0), .int 0]))]) [0, 1, 2] (by decide) rfl
      have hKc := hK.sub (tys' := []) [] rfl
      have hFc := va_free (wc := [(mo, .inr (21, [.ref s0, .int 0])), (s0, .inr (20, [.ref l0, .ref l1, .ref l2, .ref l3, .ref l4, .ref l5, .ref l6, .ref l7, .ref l8, .int 10, .int 100, .int 50, .int 0, .int 0])), (l4, .inr (5, [.int 0, .ref (E 0), .int 0]))]) hD hS hA [0, 1, 2] rfl
      refine va_calli (va_runV (As := [.int sv1, .int 0]) (rest := []) ⟨hx, hb, hml, hown, htl⟩ (c_rm_setDevice l dC dI E mo s0 l0 l1 l2 l3 l4 l5 l6 l7 l8 0 sv1 0 H.size) (cwV 2 htl gL_law_X15_setDevice rfl rfl rfl (by decide +kernel) ⟨(Nat.le_of_ble_eq_true rfl), (Nat.le_of_ble_eq_true rfl)⟩) ⟨pre_blind, va_recv hKc hPc (ci := 21) (q0 := 0) rfl rfl, pre_call hPc hDc hKc hFc hE hZ hS⟩ rfl rfl hl.1 rfl (lv_room (Nat.le_of_ble_eq_true rfl)) dL_law_585 ⟨(Nat.le_of_ble_eq_true rfl), (Nat.le_of_ble_eq_true rfl)⟩) hS (fun q _ h => hFc q h) hFc (fun r u t H1 locs1 ht hvm hw hB hz1 hk1 hS => ?_)
      have hw9 : r = 0 := hw
      rw [hw9]
      obtain ⟨hP, hD, hK⟩ := pst_join (wc := [(mo, .inr (21, [.ref s0, .int 0])), (s0, .inr (20, [.ref l0, .ref l1, .ref l2, .ref l3, .ref l4, .ref l5, .ref l6, .ref l7, .ref l8, .int 10, .int 100, .int 50, .int 0, .int 0])), (l4, .inr (5, [.int 0, .ref (E 0), .int 0]))]) (wr := []) (w1 := [(mo, .inr (21, [.ref s0, .int 1]))]) (tr := []) (t1 := []) hP hD hK [0, 1, 2] [] [] rfl rfl rfl (by decide) (by decide) hk1 hFc ht hvm hB
      generalize H1 = H at hP hS ⊢
      have hP : va_P (dC, dI) vwCl [(mo, .inr (21, [.ref s0, .int 1]))] H := hP
      have hD : va_D (fun q : Nat => s.heap.size ≤ q) [(mo, .inr (21, [.ref s0, .int 1]))] := hD
      have hK : va_K (dC, dI) vwCl [] s := hK
      refine W.widen (k := 77) (n := 1487) (Nat.le_of_ble_eq_true rfl) (Nat.le_of_ble_eq_true rfl) ?_
      refine lv_istore (lv' := [(7, .int 0), (6, .int 1), (0, .ref b), (1, .ref x), (2, .ref mo), (3, .ref oA), (4, .ref oD), (5, .int 0)]) hx hb dL_law_588 hl (by decide) rfl (fun ls hl => ?_)
      refine lv_aload_n hx hb dL_law_590 rfl (lv_at hl 4 rfl) ?_
      have hPc := hP.sub (ws' := [(mo, .inr (21, [.ref s0, .int 1]))]) [0] rfl
      have hDc := hD.sub (ws' := [(mo, .inr (21, [.ref s0, .int 1]))]) [0] (by decide) rfl
      have hKc := hK.sub (tys' := []) [] rfl
      have hFc := va_free (wc := [(mo, .inr (21, [.ref s0, .int 1]))]) hD hS hA [0] rfl
      refine va_calli (va_runV (As := []) (rest := []) ⟨hx, hb, hml, hown, htl⟩ (c_rm_thrown l dC dI E mo s0 1 H.size) (cwV 0 htl gL_law_X15_thrown rfl rfl rfl (by decide +kernel) ⟨(Nat.le_of_ble_eq_true rfl), (Nat.le_of_ble_eq_true rfl)⟩) ⟨pre_blind, va_recv hKc hPc (ci := 21) (q0 := 0) rfl rfl, pre_call hPc hDc hKc hFc hE hZ hS⟩ rfl rfl hl.1 rfl (lv_room (Nat.le_of_ble_eq_true rfl)) dL_law_591 ⟨(Nat.le_of_ble_eq_true rfl), (Nat.le_of_ble_eq_true rfl)⟩) hS (fun q _ h => hFc q h) hFc (fun r u t H1 locs1 ht hvm hw hB hz1 hk1 hS => ?_)
      have hw9 : r = 1 := hw
      rw [hw9]
      obtain ⟨hP, hD, hK⟩ := pst_join (wc := [(mo, .inr (21, [.ref s0, .int 1]))]) (wr := []) (w1 := [(mo, .inr (21, [.ref s0, .int 1]))]) (tr := []) (t1 := []) hP hD hK [0] [] [] rfl rfl rfl (by decide) (by decide) hk1 hFc ht hvm hB
      generalize H1 = H at hP hS ⊢
      have hP : va_P (dC, dI) vwCl [(mo, .inr (21, [.ref s0, .int 1]))] H := hP
      have hD : va_D (fun q : Nat => s.heap.size ≤ q) [(mo, .inr (21, [.ref s0, .int 1]))] := hD
      have hK : va_K (dC, dI) vwCl [] s := hK
      refine W.widen (k := 77) (n := 1487) (Nat.le_of_ble_eq_true rfl) (Nat.le_of_ble_eq_true rfl) ?_
      refine lv_iload hx hb dL_law_594 (lv_at hl 1 rfl) ?_
      refine lv_icmp_eq (tgt := 601) hx hb dL_law_596 (by decide) (fun _ => ?_) (fun c9 => absurd (by decide) c9)
      refine lv_iload hx hb dL_law_601 (lv_at hl 1 rfl) ?_
      refine lv_if_ne (tgt := 625) hx hb dL_law_603 (by decide) (fun _ => ?_) (fun c9 => absurd c9 (by decide))
      refine lv_goto (tgt := 1756) hx hb dL_law_625 (by decide) ?_
      exact law_end C0 hS (lv_sub hl [2, 7] rfl) (Nat.le_of_ble_eq_true rfl) (Nat.le_of_ble_eq_true rfl)
    · refine lv_iconst (v := 1) hx hb dL_law_580 (by decide) ?_
      refine lv_goto (tgt := 585) hx hb dL_law_581 (by decide) ?_
      have hPc := hP.sub (ws' := [(mo, .inr (21, [.ref s0, .int 0])), (s0, .inr (20, [.ref l0, .ref l1, .ref l2, .ref l3, .ref l4, .ref l5, .ref l6, .ref l7, .ref l8, .int 10, .int 100, .int 50, .int 0, .int 0])), (l4, .inr (5, [.int 0, .ref (E 0), .int 0]))]) [0, 1, 2] rfl
      have hDc := hD.sub (ws' := [(mo, .inr (21, [.ref s0, .int 0])), (s0, .inr (20, [.ref l0, .ref l1, .ref l2, .ref l3, .ref l4, .ref l5, .ref l6, .ref l7, .ref l8, .int 10, .int 100, .int 50, .int 0, .int 0])), (l4, .inr (5, [.int 0, .ref (E 0), .int 0]))]) [0, 1, 2] (by decide) rfl
      have hKc := hK.sub (tys' := []) [] rfl
      have hFc := va_free (wc := [(mo, .inr (21, [.ref s0, .int 0])), (s0, .inr (20, [.ref l0, .ref l1, .ref l2, .ref l3, .ref l4, .ref l5, .ref l6, .ref l7, .ref l8, .int 10, .int 100, .int 50, .int 0, .int 0])), (l4, .inr (5, [.int 0, .ref (E 0), .int 0]))]) hD hS hA [0, 1, 2] rfl
      refine va_calli (va_runV (As := [.int sv1, .int 1]) (rest := []) ⟨hx, hb, hml, hown, htl⟩ (c_rm_setDevice l dC dI E mo s0 l0 l1 l2 l3 l4 l5 l6 l7 l8 0 sv1 1 H.size) (cwV 2 htl gL_law_X15_setDevice rfl rfl rfl (by decide +kernel) ⟨(Nat.le_of_ble_eq_true rfl), (Nat.le_of_ble_eq_true rfl)⟩) ⟨pre_blind, va_recv hKc hPc (ci := 21) (q0 := 0) rfl rfl, pre_call hPc hDc hKc hFc hE hZ hS⟩ rfl rfl hl.1 rfl (lv_room (Nat.le_of_ble_eq_true rfl)) dL_law_585 ⟨(Nat.le_of_ble_eq_true rfl), (Nat.le_of_ble_eq_true rfl)⟩) hS (fun q _ h => hFc q h) hFc (fun r u t H1 locs1 ht hvm hw hB hz1 hk1 hS => ?_)
      have hw9 : r = 0 := hw
      rw [hw9]
      obtain ⟨hP, hD, hK⟩ := pst_join (wc := [(mo, .inr (21, [.ref s0, .int 0])), (s0, .inr (20, [.ref l0, .ref l1, .ref l2, .ref l3, .ref l4, .ref l5, .ref l6, .ref l7, .ref l8, .int 10, .int 100, .int 50, .int 0, .int 0])), (l4, .inr (5, [.int 0, .ref (E 0), .int 0]))]) (wr := []) (w1 := [(mo, .inr (21, [.ref s0, .int 1]))]) (tr := []) (t1 := []) hP hD hK [0, 1, 2] [] [] rfl rfl rfl (by decide) (by decide) hk1 hFc ht hvm hB
      generalize H1 = H at hP hS ⊢
      have hP : va_P (dC, dI) vwCl [(mo, .inr (21, [.ref s0, .int 1]))] H := hP
      have hD : va_D (fun q : Nat => s.heap.size ≤ q) [(mo, .inr (21, [.ref s0, .int 1]))] := hD
      have hK : va_K (dC, dI) vwCl [] s := hK
      refine W.widen (k := 77) (n := 1487) (Nat.le_of_ble_eq_true rfl) (Nat.le_of_ble_eq_true rfl) ?_
      refine lv_istore (lv' := [(7, .int 0), (6, .int 1), (0, .ref b), (1, .ref x), (2, .ref mo), (3, .ref oA), (4, .ref oD), (5, .int 0)]) hx hb dL_law_588 hl (by decide) rfl (fun ls hl => ?_)
      refine lv_aload_n hx hb dL_law_590 rfl (lv_at hl 4 rfl) ?_
      have hPc := hP.sub (ws' := [(mo, .inr (21, [.ref s0, .int 1]))]) [0] rfl
      have hDc := hD.sub (ws' := [(mo, .inr (21, [.ref s0, .int 1]))]) [0] (by decide) rfl
      have hKc := hK.sub (tys' := []) [] rfl
      have hFc := va_free (wc := [(mo, .inr (21, [.ref s0, .int 1]))]) hD hS hA [0] rfl
      refine va_calli (va_runV (As := []) (rest := []) ⟨hx, hb, hml, hown, htl⟩ (c_rm_thrown l dC dI E mo s0 1 H.size) (cwV 0 htl gL_law_X15_thrown rfl rfl rfl (by decide +kernel) ⟨(Nat.le_of_ble_eq_true rfl), (Nat.le_of_ble_eq_true rfl)⟩) ⟨pre_blind, va_recv hKc hPc (ci := 21) (q0 := 0) rfl rfl, pre_call hPc hDc hKc hFc hE hZ hS⟩ rfl rfl hl.1 rfl (lv_room (Nat.le_of_ble_eq_true rfl)) dL_law_591 ⟨(Nat.le_of_ble_eq_true rfl), (Nat.le_of_ble_eq_true rfl)⟩) hS (fun q _ h => hFc q h) hFc (fun r u t H1 locs1 ht hvm hw hB hz1 hk1 hS => ?_)
      have hw9 : r = 1 := hw
      rw [hw9]
      obtain ⟨hP, hD, hK⟩ := pst_join (wc := [(mo, .inr (21, [.ref s0, .int 1]))]) (wr := []) (w1 := [(mo, .inr (21, [.ref s0, .int 1]))]) (tr := []) (t1 := []) hP hD hK [0] [] [] rfl rfl rfl (by decide) (by decide) hk1 hFc ht hvm hB
      generalize H1 = H at hP hS ⊢
      have hP : va_P (dC, dI) vwCl [(mo, .inr (21, [.ref s0, .int 1]))] H := hP
      have hD : va_D (fun q : Nat => s.heap.size ≤ q) [(mo, .inr (21, [.ref s0, .int 1]))] := hD
      have hK : va_K (dC, dI) vwCl [] s := hK
      refine W.widen (k := 77) (n := 1487) (Nat.le_of_ble_eq_true rfl) (Nat.le_of_ble_eq_true rfl) ?_
      refine lv_iload hx hb dL_law_594 (lv_at hl 1 rfl) ?_
      refine lv_icmp_eq (tgt := 601) hx hb dL_law_596 (by decide) (fun _ => ?_) (fun c9 => absurd (by decide) c9)
      refine lv_iload hx hb dL_law_601 (lv_at hl 1 rfl) ?_
      refine lv_if_ne (tgt := 625) hx hb dL_law_603 (by decide) (fun _ => ?_) (fun c9 => absurd c9 (by decide))
      refine lv_goto (tgt := 1756) hx hb dL_law_625 (by decide) ?_
      exact law_end C0 hS (lv_sub hl [2, 7] rfl) (Nat.le_of_ble_eq_true rfl) (Nat.le_of_ble_eq_true rfl)

set_option maxHeartbeats 4000000 in
set_option maxRecDepth 100000 in
theorem law_setPanels_y {p : Program} {l : Launch} {e : Env} {s : State} {m : MethodId} {below : List Frame} {meth : Method} {c : Code} {b : Nat} {xs : Nat → Int32} {dC : Nat → ClassId} {dI : Nat → Nat → Nat} {E : Nat → Nat} {sv1 : Int32} {sv2 : Int32} {sv3 : Int32} {sv4 : Int32} {sk1 : Int32} {sk2 : Int32} {x : Nat} {now : Nat} {fc : Nat} {ro : Nat} {hto : Nat} {de : Nat} {cr : Nat} {co : Nat} {sh : Nat} {eo : Nat} {mo : Nat} {s0 : Nat} {l0 : Nat} {l1 : Nat} {l2 : Nat} {l3 : Nat} {l4 : Nat} {l5 : Nat} {l6 : Nat} {l7 : Nat} {l8 : Nat} {oA : Nat} {cJ : ClassId} {oD : Nat} (hst : l.stackTraces = false) (C0 : lw_At p s m meth c b 5 xs) (hE : ev E s) (hZ : es E (fun q : Nat => s.heap.size ≤ q) s s.heap) (hv1 : sv1 = xs (1 : Int32).toNatClampNeg) (hv2 : sv2 = xs (2 : Int32).toNatClampNeg) (hv3 : sv3 = xs (3 : Int32).toNatClampNeg) (hv4 : sv4 = xs (4 : Int32).toNatClampNeg) (hch1 : sk1 = (sv1.toUInt32 % 65536).toInt32) (hch2 : sk2 = (sv2.toUInt32 % 65536).toInt32) {H : Heap} {locs : List Loc} {ls : Array Slot} (hK : va_K (dC, dI) vwCl [(cJ, .long)] s) (hP : va_P (dC, dI) vwCl [(x, .inr (14, [.ref now, .ref fc])), (now, .inr (13, [.ref ro, .ref hto, .ref de, .ref cr, .ref co, .ref sh, .ref eo, .int 0, .int 0, .int 10, .int 100, .int 50, .int 0, .int 50])), (mo, .inr (21, [.ref s0, .int 0])), (s0, .inr (20, [.ref l0, .ref l1, .ref l2, .ref l3, .ref l4, .ref l5, .ref l6, .ref l7, .ref l8, .int 10, .int 100, .int 50, .int 0, .int 0])), (oA, .inl (cJ, 1, .inr (.inl (fun _ => 0))))] H) (hD : va_D (fun q : Nat => s.heap.size ≤ q) [(x, .inr (14, [.ref now, .ref fc])), (now, .inr (13, [.ref ro, .ref hto, .ref de, .ref cr, .ref co, .ref sh, .ref eo, .int 0, .int 0, .int 10, .int 100, .int 50, .int 0, .int 50])), (mo, .inr (21, [.ref s0, .int 0])), (s0, .inr (20, [.ref l0, .ref l1, .ref l2, .ref l3, .ref l4, .ref l5, .ref l6, .ref l7, .ref l8, .int 10, .int 100, .int 50, .int 0, .int 0])), (oA, .inl (cJ, 1, .inr (.inl (fun _ => 0))))]) (hS : va_S (fun q : Nat => s.heap.size ≤ q) s.heap H locs) (hl : lv_has ls 9 [(0, .ref b), (1, .ref x), (2, .ref mo), (3, .ref oA), (4, .ref oD), (5, .int 0)]) (hla : ¬ sv1 < 0) (hua : ¬ 40 < sv1) : W p l e room_1 s m #[Value.ref b] below meth c H locs 76 1481 (lw_Z below #[Value.ref b] s) (F0 m 628 ls []) := by
  obtain ⟨hx, hb, hr, hml, hown, hts, hX, hbl, hlocks, hgv⟩ := id C0
  have hA : ∀ q : Nat, s.heap.size ≤ q → (fun q : Nat => s.heap.size ≤ q) q := fun _ h => h
  have hbA : ¬ (fun q : Nat => s.heap.size ≤ q) b := Nat.not_le.mpr hbl
  have hown : s.vm.findClass RL = some m.cls := hown
  have htl : ∀ w ∈ wsL_law, w.before #[Value.ref b] s = true := fun w h => hts w (wsL_law_in w h)
  refine lv_aload_n hx hb dL_law_628 rfl (lv_at hl 1 rfl) ?_
  refine lv_aload_n hx hb dL_law_629 rfl (lv_at hl 0 rfl) ?_
  refine lv_iload hx hb dL_law_630 (lv_at hl 5 rfl) ?_
  refine lv_iconst (v := 1) hx hb dL_law_632 (by decide) ?_
  refine lv_iadd hx hb dL_law_633 ?_
  refine lv_topi (fun z_1 ez_1 => ?_)
  obtain rfl : z_1 = 1 := ez_1.trans (by decide)
  refine va_sld hx hb hX hbl hbA hS (by unfold vp_in; decide) dL_law_634 ?_
  refine lv_topi (fun z_2 ez_2 => ?_)
  obtain rfl : sv1 = z_2 := hv1.trans ez_2.symm
  refine lv_aload_n hx hb dL_law_635 rfl (lv_at hl 3 rfl) ?_
  have hPc := hP.sub (ws' := [(x, .inr (14, [.ref now, .ref fc])), (now, .inr (13, [.ref ro, .ref hto, .ref de, .ref cr, .ref co, .ref sh, .ref eo, .int 0, .int 0, .int 10, .int 100, .int 50, .int 0, .int 50])), (oA, .inl (cJ, 1, .inr (.inl (fun _ => 0))))]) [0, 1, 4] rfl
  have hDc := hD.sub (ws' := [(x, .inr (14, [.ref now, .ref fc])), (now, .inr (13, [.ref ro, .ref hto, .ref de, .ref cr, .ref co, .ref sh, .ref eo, .int 0, .int 0, .int 10, .int 100, .int 50, .int 0, .int 50])), (oA, .inl (cJ, 1, .inr (.inl (fun _ => 0))))]) [0, 1, 4] (by decide) rfl
  have hKc := hK.sub (tys' := [(cJ, .long)]) [0] rfl
  have hFc := va_free (wc := [(x, .inr (14, [.ref now, .ref fc])), (now, .inr (13, [.ref ro, .ref hto, .ref de, .ref cr, .ref co, .ref sh, .ref eo, .int 0, .int 0, .int 10, .int 100, .int 50, .int 0, .int 50])), (oA, .inl (cJ, 1, .inr (.inl (fun _ => 0))))]) hD hS hA [0, 1, 4] rfl
  refine vx_calli (vx_runSX (As := [.ref x, .int sv1, .ref oA]) (rest := []) ⟨hx, hb, hml, hown, htl⟩ (c_w_setPanels_y l dC dI E x now fc ro hto de cr co sh eo sv1 oA cJ (fun _ => 0) H.size hla hua) (vx_cwSW 3 htl gL_law_L_setPanels rfl rfl rfl (by decide +kernel) ⟨(Nat.le_of_ble_eq_true rfl), (Nat.le_of_ble_eq_true rfl)⟩) ⟨pre_blind, pre_call hPc hDc hKc hFc hE hZ hS⟩ rfl rfl hl.1 rfl (lv_room (Nat.le_of_ble_eq_true rfl)) dL_law_636 ⟨(Nat.le_of_ble_eq_true rfl), (Nat.le_of_ble_eq_true rfl)⟩) hS (fun q _ h => hFc q h) hFc (fun q _ h => hFc q h) (fun E9 ce q9 u t H1 locs1 ht hvm hw hB hz1 hk1 hS hc9 hv9 hf9 => hw.elim) (fun r u t H1 locs1 ht hvm hw hB hz1 hk1 hS => ?_)
  obtain ⟨g_3, hf0_3, hB⟩ := hB
  have hw9 : r = 0 := hw
  rw [hw9]
  obtain ⟨hP, hD, hK⟩ := pst_join (wc := [(x, .inr (14, [.ref now, .ref fc])), (now, .inr (13, [.ref ro, .ref hto, .ref de, .ref cr, .ref co, .ref sh, .ref eo, .int 0, .int 0, .int 10, .int 100, .int 50, .int 0, .int 50])), (oA, .inl (cJ, 1, .inr (.inl (fun _ => 0))))]) (wr := [(mo, .inr (21, [.ref s0, .int 0])), (s0, .inr (20, [.ref l0, .ref l1, .ref l2, .ref l3, .ref l4, .ref l5, .ref l6, .ref l7, .ref l8, .int 10, .int 100, .int 50, .int 0, .int 0]))]) (w1 := [(oA, .inl (cJ, 1, .inr (.inl g_3)))]) (tr := []) (t1 := [(cJ, .long)]) hP hD hK [0, 1, 4] [2, 3] [] rfl rfl rfl (by decide) (by decide) hk1 hFc ht hvm hB
  generalize H1 = H at hP hS ⊢
  have hP : va_P (dC, dI) vwCl [(mo, .inr (21, [.ref s0, .int 0])), (s0, .inr (20, [.ref l0, .ref l1, .ref l2, .ref l3, .ref l4, .ref l5, .ref l6, .ref l7, .ref l8, .int 10, .int 100, .int 50, .int 0, .int 0])), (oA, .inl (cJ, 1, .inr (.inl g_3)))] H := hP
  have hD : va_D (fun q : Nat => s.heap.size ≤ q) [(mo, .inr (21, [.ref s0, .int 0])), (s0, .inr (20, [.ref l0, .ref l1, .ref l2, .ref l3, .ref l4, .ref l5, .ref l6, .ref l7, .ref l8, .int 10, .int 100, .int 50, .int 0, .int 0])), (oA, .inl (cJ, 1, .inr (.inl g_3)))] := hD
  have hK : va_K (dC, dI) vwCl [(cJ, .long)] s := hK
  refine W.widen (k := 76) (n := 1481) (Nat.le_of_ble_eq_true rfl) (Nat.le_of_ble_eq_true rfl) ?_
  refine lv_istore (lv' := [(6, .int 0), (0, .ref b), (1, .ref x), (2, .ref mo), (3, .ref oA), (4, .ref oD), (5, .int 0)]) hx hb dL_law_639 hl (by decide) rfl (fun ls hl => ?_)
  refine lv_aload_n hx hb dL_law_641 rfl (lv_at hl 3 rfl) ?_
  refine lv_aload_n hx hb dL_law_642 rfl (lv_at hl 1 rfl) ?_
  refine lv_iload hx hb dL_law_643 (lv_at hl 6 rfl) ?_
  refine lv_iconst (v := 1) hx hb dL_law_645 (by decide) ?_
  refine lv_iadd hx hb dL_law_646 ?_
  refine lv_topi (fun z_5 ez_5 => ?_)
  obtain rfl : z_5 = 1 := ez_5.trans (by decide)
  refine va_sld hx hb hX hbl hbA hS (by unfold vp_in; decide) dL_law_647 ?_
  refine lv_topi (fun z_6 ez_6 => ?_)
  obtain rfl : sv1 = z_6 := hv1.trans ez_6.symm
  have hPc := hP.sub (ws' := [(mo, .inr (21, [.ref s0, .int 0])), (s0, .inr (20, [.ref l0, .ref l1, .ref l2, .ref l3, .ref l4, .ref l5, .ref l6, .ref l7, .ref l8, .int 10, .int 100, .int 50, .int 0, .int 0]))]) [0, 1] rfl
  have hDc := hD.sub (ws' := [(mo, .inr (21, [.ref s0, .int 0])), (s0, .inr (20, [.ref l0, .ref l1, .ref l2, .ref l3, .ref l4, .ref l5, .ref l6, .ref l7, .ref l8, .int 10, .int 100, .int 50, .int 0, .int 0]))]) [0, 1] (by decide) rfl
  have hKc := hK.sub (tys' := []) [] rfl
  have hFc := va_free (wc := [(mo, .inr (21, [.ref s0, .int 0])), (s0, .inr (20, [.ref l0, .ref l1, .ref l2, .ref l3, .ref l4, .ref l5, .ref l6, .ref l7, .ref l8, .int 10, .int 100, .int 50, .int 0, .int 0]))]) hD hS hA [0, 1] rfl
  refine va_calli (va_runV (As := [.int sv1]) (rest := []) ⟨hx, hb, hml, hown, htl⟩ (c_rm_setPanels_y l dC dI E mo s0 l0 l1 l2 l3 l4 l5 l6 l7 l8 0 sv1 H.size hla hua) (cwV 1 htl gL_law_X15_setPanels rfl rfl rfl (by decide +kernel) ⟨(Nat.le_of_ble_eq_true rfl), (Nat.le_of_ble_eq_true rfl)⟩) ⟨pre_blind, va_recv hKc hPc (ci := 21) (q0 := 0) rfl rfl, pre_call hPc hDc hKc hFc hE hZ hS⟩ rfl rfl hl.1 rfl (lv_room (Nat.le_of_ble_eq_true rfl)) dL_law_648 ⟨(Nat.le_of_ble_eq_true rfl), (Nat.le_of_ble_eq_true rfl)⟩) hS (fun q _ h => hFc q h) hFc (fun r u t H1 locs1 ht hvm hw hB hz1 hk1 hS => ?_)
  have hw9 : r = 10 := hw
  rw [hw9]
  obtain ⟨hP, hD, hK⟩ := pst_join (wc := [(mo, .inr (21, [.ref s0, .int 0])), (s0, .inr (20, [.ref l0, .ref l1, .ref l2, .ref l3, .ref l4, .ref l5, .ref l6, .ref l7, .ref l8, .int 10, .int 100, .int 50, .int 0, .int 0]))]) (wr := [(oA, .inl (cJ, 1, .inr (.inl g_3)))]) (w1 := [(mo, .inr (21, [.ref s0, .int 0]))]) (tr := [(cJ, .long)]) (t1 := []) hP hD hK [0, 1] [2] [0] rfl rfl rfl (by decide) (by decide) hk1 hFc ht hvm hB
  generalize H1 = H at hP hS ⊢
  have hP : va_P (dC, dI) vwCl [(oA, .inl (cJ, 1, .inr (.inl g_3))), (mo, .inr (21, [.ref s0, .int 0]))] H := hP
  have hD : va_D (fun q : Nat => s.heap.size ≤ q) [(oA, .inl (cJ, 1, .inr (.inl g_3))), (mo, .inr (21, [.ref s0, .int 0]))] := hD
  have hK : va_K (dC, dI) vwCl [(cJ, .long)] s := hK
  refine W.widen (k := 76) (n := 1481) (Nat.le_of_ble_eq_true rfl) (Nat.le_of_ble_eq_true rfl) ?_
  refine lv_istore (lv' := [(7, .int 10), (6, .int 0), (0, .ref b), (1, .ref x), (2, .ref mo), (3, .ref oA), (4, .ref oD), (5, .int 0)]) hx hb dL_law_651 hl (by decide) rfl (fun ls hl => ?_)
  refine lv_aload_n hx hb dL_law_653 rfl (lv_at hl 4 rfl) ?_
  have hPc := hP.sub (ws' := [(mo, .inr (21, [.ref s0, .int 0]))]) [1] rfl
  have hDc := hD.sub (ws' := [(mo, .inr (21, [.ref s0, .int 0]))]) [1] (by decide) rfl
  have hKc := hK.sub (tys' := []) [] rfl
  have hFc := va_free (wc := [(mo, .inr (21, [.ref s0, .int 0]))]) hD hS hA [1] rfl
  refine va_calli (va_runV (As := []) (rest := []) ⟨hx, hb, hml, hown, htl⟩ (c_rm_thrown l dC dI E mo s0 0 H.size) (cwV 0 htl gL_law_X15_thrown rfl rfl rfl (by decide +kernel) ⟨(Nat.le_of_ble_eq_true rfl), (Nat.le_of_ble_eq_true rfl)⟩) ⟨pre_blind, va_recv hKc hPc (ci := 21) (q0 := 0) rfl rfl, pre_call hPc hDc hKc hFc hE hZ hS⟩ rfl rfl hl.1 rfl (lv_room (Nat.le_of_ble_eq_true rfl)) dL_law_654 ⟨(Nat.le_of_ble_eq_true rfl), (Nat.le_of_ble_eq_true rfl)⟩) hS (fun q _ h => hFc q h) hFc (fun r u t H1 locs1 ht hvm hw hB hz1 hk1 hS => ?_)
  have hw9 : r = 0 := hw
  rw [hw9]
  obtain ⟨hP, hD, hK⟩ := pst_join (wc := [(mo, .inr (21, [.ref s0, .int 0]))]) (wr := [(oA, .inl (cJ, 1, .inr (.inl g_3)))]) (w1 := [(mo, .inr (21, [.ref s0, .int 0]))]) (tr := [(cJ, .long)]) (t1 := []) hP hD hK [1] [0] [0] rfl rfl rfl (by decide) (by decide) hk1 hFc ht hvm hB
  generalize H1 = H at hP hS ⊢
  have hP : va_P (dC, dI) vwCl [(oA, .inl (cJ, 1, .inr (.inl g_3))), (mo, .inr (21, [.ref s0, .int 0]))] H := hP
  have hD : va_D (fun q : Nat => s.heap.size ≤ q) [(oA, .inl (cJ, 1, .inr (.inl g_3))), (mo, .inr (21, [.ref s0, .int 0]))] := hD
  have hK : va_K (dC, dI) vwCl [(cJ, .long)] s := hK
  refine W.widen (k := 76) (n := 1481) (Nat.le_of_ble_eq_true rfl) (Nat.le_of_ble_eq_true rfl) ?_
  refine lv_iload hx hb dL_law_657 (lv_at hl 1 rfl) ?_
  refine lv_icmp_eq (tgt := 664) hx hb dL_law_659 (by decide) (fun _ => ?_) (fun c9 => absurd (by decide) c9)
  refine lv_iload hx hb dL_law_664 (lv_at hl 1 rfl) ?_
  refine lv_if_ne (tgt := 681) hx hb dL_law_666 (by decide) (fun c9 => absurd (by decide) c9) (fun _ => ?_)
  refine lv_aload_n hx hb dL_law_669 rfl (lv_at hl 5 rfl) ?_
  refine lv_iconst (v := 0) hx hb dL_law_670 (by decide) ?_
  refine va_lald hx hb hK hP 0 0 rfl rfl (by unfold vp_in; decide) dL_law_671 ?_
  refine lv_iload hx hb dL_law_672 (lv_at hl 0 rfl) ?_
  refine lv_i2l (v := 10) hx hb dL_law_674 (by decide) ?_
  refine W.lcmp hx hb dL_law_675 ?_
  refine lv_topi (fun z_12 ez_12 => ?_)
  obtain rfl : z_12 = 0 := ez_12.trans ((by rw [show g_3 (0 : Int32).toNatClampNeg = 10 from (congrArg g_3 (by decide)).trans hf0_3]; exact lcmp_self _))
  refine lv_if_eq (tgt := 681) hx hb dL_law_676 (by decide) (fun _ => ?_) (fun c9 => absurd (by decide) c9)
  refine lv_goto (tgt := 1756) hx hb dL_law_681 (by decide) ?_
  exact law_end C0 hS (lv_sub hl [2, 7] rfl) (Nat.le_of_ble_eq_true rfl) (Nat.le_of_ble_eq_true rfl)

set_option maxHeartbeats 4000000 in
set_option maxRecDepth 100000 in
theorem law_setPanels_n {p : Program} {l : Launch} {e : Env} {s : State} {m : MethodId} {below : List Frame} {meth : Method} {c : Code} {b : Nat} {xs : Nat → Int32} {dC : Nat → ClassId} {dI : Nat → Nat → Nat} {E : Nat → Nat} {sv1 : Int32} {sv2 : Int32} {sv3 : Int32} {sv4 : Int32} {sk1 : Int32} {sk2 : Int32} {x : Nat} {now : Nat} {fc : Nat} {mo : Nat} {s0 : Nat} {l0 : Nat} {l1 : Nat} {l2 : Nat} {l3 : Nat} {l4 : Nat} {l5 : Nat} {l6 : Nat} {l7 : Nat} {l8 : Nat} {oA : Nat} {oD : Nat} (hst : l.stackTraces = false) (C0 : lw_At p s m meth c b 5 xs) (hE : ev E s) (hZ : es E (fun q : Nat => s.heap.size ≤ q) s s.heap) (hv1 : sv1 = xs (1 : Int32).toNatClampNeg) (hv2 : sv2 = xs (2 : Int32).toNatClampNeg) (hv3 : sv3 = xs (3 : Int32).toNatClampNeg) (hv4 : sv4 = xs (4 : Int32).toNatClampNeg) (hch1 : sk1 = (sv1.toUInt32 % 65536).toInt32) (hch2 : sk2 = (sv2.toUInt32 % 65536).toInt32) {H : Heap} {locs : List Loc} {ls : Array Slot} (hK : va_K (dC, dI) vwCl [] s) (hP : va_P (dC, dI) vwCl [(x, .inr (14, [.ref now, .ref fc])), (mo, .inr (21, [.ref s0, .int 0])), (s0, .inr (20, [.ref l0, .ref l1, .ref l2, .ref l3, .ref l4, .ref l5, .ref l6, .ref l7, .ref l8, .int 10, .int 100, .int 50, .int 0, .int 0]))] H) (hD : va_D (fun q : Nat => s.heap.size ≤ q) [(x, .inr (14, [.ref now, .ref fc])), (mo, .inr (21, [.ref s0, .int 0])), (s0, .inr (20, [.ref l0, .ref l1, .ref l2, .ref l3, .ref l4, .ref l5, .ref l6, .ref l7, .ref l8, .int 10, .int 100, .int 50, .int 0, .int 0]))]) (hS : va_S (fun q : Nat => s.heap.size ≤ q) s.heap H locs) (hl : lv_has ls 9 [(0, .ref b), (1, .ref x), (2, .ref mo), (3, .ref oA), (4, .ref oD), (5, .int 0)]) (h : ¬ (¬ sv1 < 0 ∧ ¬ 40 < sv1)) : W p l e room_1 s m #[Value.ref b] below meth c H locs 76 1481 (lw_Z below #[Value.ref b] s) (F0 m 628 ls []) := by
  obtain ⟨hx, hb, hr, hml, hown, hts, hX, hbl, hlocks, hgv⟩ := id C0
  have hA : ∀ q : Nat, s.heap.size ≤ q → (fun q : Nat => s.heap.size ≤ q) q := fun _ h => h
  have hbA : ¬ (fun q : Nat => s.heap.size ≤ q) b := Nat.not_le.mpr hbl
  have hown : s.vm.findClass RL = some m.cls := hown
  have htl : ∀ w ∈ wsL_law, w.before #[Value.ref b] s = true := fun w h => hts w (wsL_law_in w h)
  refine lv_aload_n hx hb dL_law_628 rfl (lv_at hl 1 rfl) ?_
  refine lv_aload_n hx hb dL_law_629 rfl (lv_at hl 0 rfl) ?_
  refine lv_iload hx hb dL_law_630 (lv_at hl 5 rfl) ?_
  refine lv_iconst (v := 1) hx hb dL_law_632 (by decide) ?_
  refine lv_iadd hx hb dL_law_633 ?_
  refine lv_topi (fun z_1 ez_1 => ?_)
  obtain rfl : z_1 = 1 := ez_1.trans (by decide)
  refine va_sld hx hb hX hbl hbA hS (by unfold vp_in; decide) dL_law_634 ?_
  refine lv_topi (fun z_2 ez_2 => ?_)
  obtain rfl : sv1 = z_2 := hv1.trans ez_2.symm
  refine lv_aload_n hx hb dL_law_635 rfl (lv_at hl 3 rfl) ?_
  have hPc := hP.sub (ws' := [(x, .inr (14, [.ref now, .ref fc]))]) [0] rfl
  have hDc := hD.sub (ws' := [(x, .inr (14, [.ref now, .ref fc]))]) [0] (by decide) rfl
  have hKc := hK.sub (tys' := []) [] rfl
  have hFc := va_free (wc := [(x, .inr (14, [.ref now, .ref fc]))]) hD hS hA [0] rfl
  refine vx_calli (vx_runSX (As := [.ref x, .int sv1, .ref oA]) (rest := []) ⟨hx, hb, hml, hown, htl⟩ (c_w_setPanels_n l hst dC dI E x sv1 oA now fc H.size h) (vx_cwSW 3 htl gL_law_L_setPanels rfl rfl rfl (by decide +kernel) ⟨(Nat.le_of_ble_eq_true rfl), (Nat.le_of_ble_eq_true rfl)⟩) ⟨pre_blind, pre_call hPc hDc hKc hFc hE hZ hS⟩ rfl rfl hl.1 rfl (lv_room (Nat.le_of_ble_eq_true rfl)) dL_law_636 ⟨(Nat.le_of_ble_eq_true rfl), (Nat.le_of_ble_eq_true rfl)⟩) hS (fun q _ h => hFc q h) hFc (fun q _ h => hFc q h) (fun E9 ce q9 u t H1 locs1 ht hvm hw hB hz1 hk1 hS hc9 hv9 hf9 => hw.elim) (fun r u t H1 locs1 ht hvm hw hB hz1 hk1 hS => ?_)
  have hw9 : r = 1 := hw
  rw [hw9]
  obtain ⟨hP, hD, hK⟩ := pst_drop (wc := [(x, .inr (14, [.ref now, .ref fc]))]) (wr := [(mo, .inr (21, [.ref s0, .int 0])), (s0, .inr (20, [.ref l0, .ref l1, .ref l2, .ref l3, .ref l4, .ref l5, .ref l6, .ref l7, .ref l8, .int 10, .int 100, .int 50, .int 0, .int 0]))]) (tr := []) hP hD hK [0] [1, 2] [] rfl rfl rfl (by decide) (by decide) hk1 hFc
  generalize H1 = H at hP hS ⊢
  have hP : va_P (dC, dI) vwCl [(mo, .inr (21, [.ref s0, .int 0])), (s0, .inr (20, [.ref l0, .ref l1, .ref l2, .ref l3, .ref l4, .ref l5, .ref l6, .ref l7, .ref l8, .int 10, .int 100, .int 50, .int 0, .int 0]))] H := hP
  have hD : va_D (fun q : Nat => s.heap.size ≤ q) [(mo, .inr (21, [.ref s0, .int 0])), (s0, .inr (20, [.ref l0, .ref l1, .ref l2, .ref l3, .ref l4, .ref l5, .ref l6, .ref l7, .ref l8, .int 10, .int 100, .int 50, .int 0, .int 0]))] := hD
  have hK : va_K (dC, dI) vwCl [] s := hK
  refine W.widen (k := 77) (n := 1487) (Nat.le_of_ble_eq_true rfl) (Nat.le_of_ble_eq_true rfl) ?_
  refine lv_istore (lv' := [(6, .int 1), (0, .ref b), (1, .ref x), (2, .ref mo), (3, .ref oA), (4, .ref oD), (5, .int 0)]) hx hb dL_law_639 hl (by decide) rfl (fun ls hl => ?_)
  refine lv_aload_n hx hb dL_law_641 rfl (lv_at hl 3 rfl) ?_
  refine lv_aload_n hx hb dL_law_642 rfl (lv_at hl 1 rfl) ?_
  refine lv_iload hx hb dL_law_643 (lv_at hl 6 rfl) ?_
  refine lv_iconst (v := 1) hx hb dL_law_645 (by decide) ?_
  refine lv_iadd hx hb dL_law_646 ?_
  refine lv_topi (fun z_4 ez_4 => ?_)
  obtain rfl : z_4 = 1 := ez_4.trans (by decide)
  refine va_sld hx hb hX hbl hbA hS (by unfold vp_in; decide) dL_law_647 ?_
  refine lv_topi (fun z_5 ez_5 => ?_)
  obtain rfl : sv1 = z_5 := hv1.trans ez_5.symm
  have hPc := hP.sub (ws' := [(mo, .inr (21, [.ref s0, .int 0])), (s0, .inr (20, [.ref l0, .ref l1, .ref l2, .ref l3, .ref l4, .ref l5, .ref l6, .ref l7, .ref l8, .int 10, .int 100, .int 50, .int 0, .int 0]))]) [0, 1] rfl
  have hDc := hD.sub (ws' := [(mo, .inr (21, [.ref s0, .int 0])), (s0, .inr (20, [.ref l0, .ref l1, .ref l2, .ref l3, .ref l4, .ref l5, .ref l6, .ref l7, .ref l8, .int 10, .int 100, .int 50, .int 0, .int 0]))]) [0, 1] (by decide) rfl
  have hKc := hK.sub (tys' := []) [] rfl
  have hFc := va_free (wc := [(mo, .inr (21, [.ref s0, .int 0])), (s0, .inr (20, [.ref l0, .ref l1, .ref l2, .ref l3, .ref l4, .ref l5, .ref l6, .ref l7, .ref l8, .int 10, .int 100, .int 50, .int 0, .int 0]))]) hD hS hA [0, 1] rfl
  refine va_calli (va_runV (As := [.int sv1]) (rest := []) ⟨hx, hb, hml, hown, htl⟩ (c_rm_setPanels_n l dC dI E mo s0 l0 l1 l2 l3 l4 l5 l6 l7 l8 0 sv1 H.size h) (cwV 1 htl gL_law_X15_setPanels rfl rfl rfl (by decide +kernel) ⟨(Nat.le_of_ble_eq_true rfl), (Nat.le_of_ble_eq_true rfl)⟩) ⟨pre_blind, va_recv hKc hPc (ci := 21) (q0 := 0) rfl rfl, pre_call hPc hDc hKc hFc hE hZ hS⟩ rfl rfl hl.1 rfl (lv_room (Nat.le_of_ble_eq_true rfl)) dL_law_648 ⟨(Nat.le_of_ble_eq_true rfl), (Nat.le_of_ble_eq_true rfl)⟩) hS (fun q _ h => hFc q h) hFc (fun r u t H1 locs1 ht hvm hw hB hz1 hk1 hS => ?_)
  have hw9 : r = 0 := hw
  rw [hw9]
  obtain ⟨hP, hD, hK⟩ := pst_join (wc := [(mo, .inr (21, [.ref s0, .int 0])), (s0, .inr (20, [.ref l0, .ref l1, .ref l2, .ref l3, .ref l4, .ref l5, .ref l6, .ref l7, .ref l8, .int 10, .int 100, .int 50, .int 0, .int 0]))]) (wr := []) (w1 := [(mo, .inr (21, [.ref s0, .int 1]))]) (tr := []) (t1 := []) hP hD hK [0, 1] [] [] rfl rfl rfl (by decide) (by decide) hk1 hFc ht hvm hB
  generalize H1 = H at hP hS ⊢
  have hP : va_P (dC, dI) vwCl [(mo, .inr (21, [.ref s0, .int 1]))] H := hP
  have hD : va_D (fun q : Nat => s.heap.size ≤ q) [(mo, .inr (21, [.ref s0, .int 1]))] := hD
  have hK : va_K (dC, dI) vwCl [] s := hK
  refine W.widen (k := 77) (n := 1487) (Nat.le_of_ble_eq_true rfl) (Nat.le_of_ble_eq_true rfl) ?_
  refine lv_istore (lv' := [(7, .int 0), (6, .int 1), (0, .ref b), (1, .ref x), (2, .ref mo), (3, .ref oA), (4, .ref oD), (5, .int 0)]) hx hb dL_law_651 hl (by decide) rfl (fun ls hl => ?_)
  refine lv_aload_n hx hb dL_law_653 rfl (lv_at hl 4 rfl) ?_
  have hPc := hP.sub (ws' := [(mo, .inr (21, [.ref s0, .int 1]))]) [0] rfl
  have hDc := hD.sub (ws' := [(mo, .inr (21, [.ref s0, .int 1]))]) [0] (by decide) rfl
  have hKc := hK.sub (tys' := []) [] rfl
  have hFc := va_free (wc := [(mo, .inr (21, [.ref s0, .int 1]))]) hD hS hA [0] rfl
  refine va_calli (va_runV (As := []) (rest := []) ⟨hx, hb, hml, hown, htl⟩ (c_rm_thrown l dC dI E mo s0 1 H.size) (cwV 0 htl gL_law_X15_thrown rfl rfl rfl (by decide +kernel) ⟨(Nat.le_of_ble_eq_true rfl), (Nat.le_of_ble_eq_true rfl)⟩) ⟨pre_blind, va_recv hKc hPc (ci := 21) (q0 := 0) rfl rfl, pre_call hPc hDc hKc hFc hE hZ hS⟩ rfl rfl hl.1 rfl (lv_room (Nat.le_of_ble_eq_true rfl)) dL_law_654 ⟨(Nat.le_of_ble_eq_true rfl), (Nat.le_of_ble_eq_true rfl)⟩) hS (fun q _ h => hFc q h) hFc (fun r u t H1 locs1 ht hvm hw hB hz1 hk1 hS => ?_)
  have hw9 : r = 1 := hw
  rw [hw9]
  obtain ⟨hP, hD, hK⟩ := pst_join (wc := [(mo, .inr (21, [.ref s0, .int 1]))]) (wr := []) (w1 := [(mo, .inr (21, [.ref s0, .int 1]))]) (tr := []) (t1 := []) hP hD hK [0] [] [] rfl rfl rfl (by decide) (by decide) hk1 hFc ht hvm hB
  generalize H1 = H at hP hS ⊢
  have hP : va_P (dC, dI) vwCl [(mo, .inr (21, [.ref s0, .int 1]))] H := hP
  have hD : va_D (fun q : Nat => s.heap.size ≤ q) [(mo, .inr (21, [.ref s0, .int 1]))] := hD
  have hK : va_K (dC, dI) vwCl [] s := hK
  refine W.widen (k := 77) (n := 1487) (Nat.le_of_ble_eq_true rfl) (Nat.le_of_ble_eq_true rfl) ?_
  refine lv_iload hx hb dL_law_657 (lv_at hl 1 rfl) ?_
  refine lv_icmp_eq (tgt := 664) hx hb dL_law_659 (by decide) (fun _ => ?_) (fun c9 => absurd (by decide) c9)
  refine lv_iload hx hb dL_law_664 (lv_at hl 1 rfl) ?_
  refine lv_if_ne (tgt := 681) hx hb dL_law_666 (by decide) (fun _ => ?_) (fun c9 => absurd c9 (by decide))
  refine lv_goto (tgt := 1756) hx hb dL_law_681 (by decide) ?_
  exact law_end C0 hS (lv_sub hl [2, 7] rfl) (Nat.le_of_ble_eq_true rfl) (Nat.le_of_ble_eq_true rfl)

set_option maxHeartbeats 4000000 in
set_option maxRecDepth 100000 in
theorem law_board {p : Program} {l : Launch} {e : Env} {s : State} {m : MethodId} {below : List Frame} {meth : Method} {c : Code} {b : Nat} {xs : Nat → Int32} {dC : Nat → ClassId} {dI : Nat → Nat → Nat} {E : Nat → Nat} {sv1 : Int32} {sv2 : Int32} {sv3 : Int32} {sv4 : Int32} {sk1 : Int32} {sk2 : Int32} {x : Nat} {now : Nat} {fc : Nat} {ro : Nat} {hto : Nat} {de : Nat} {cr : Nat} {co : Nat} {sh : Nat} {eo : Nat} {a0 : Nat} {a1 : Nat} {a2 : Nat} {mo : Nat} {s0 : Nat} {l0 : Nat} {l1 : Nat} {l2 : Nat} {l3 : Nat} {l4 : Nat} {l5 : Nat} {l6 : Nat} {l7 : Nat} {l8 : Nat} {oA : Nat} {oD : Nat} (hst : l.stackTraces = false) (C0 : lw_At p s m meth c b 5 xs) (hE : ev E s) (hZ : es E (fun q : Nat => s.heap.size ≤ q) s s.heap) (hv1 : sv1 = xs (1 : Int32).toNatClampNeg) (hv2 : sv2 = xs (2 : Int32).toNatClampNeg) (hv3 : sv3 = xs (3 : Int32).toNatClampNeg) (hv4 : sv4 = xs (4 : Int32).toNatClampNeg) (hch1 : sk1 = (sv1.toUInt32 % 65536).toInt32) (hch2 : sk2 = (sv2.toUInt32 % 65536).toInt32) {H : Heap} {locs : List Loc} {ls : Array Slot} (hK : va_K (dC, dI) vwCl [] s) (hP : va_P (dC, dI) vwCl [(x, .inr (14, [.ref now, .ref fc])), (now, .inr (13, [.ref ro, .ref hto, .ref de, .ref cr, .ref co, .ref sh, .ref eo, .int 0, .int 0, .int 10, .int 100, .int 50, .int 0, .int 50])), (ro, .inr (11, [.ref a0, .ref a1, .ref a2, .int 0, .int 0])), (mo, .inr (21, [.ref s0, .int 0])), (s0, .inr (20, [.ref l0, .ref l1, .ref l2, .ref l3, .ref l4, .ref l5, .ref l6, .ref l7, .ref l8, .int 10, .int 100, .int 50, .int 0, .int 0])), (l0, .inr (5, [.int 0, .ref (E 0), .int 0]))] H) (hD : va_D (fun q : Nat => s.heap.size ≤ q) [(x, .inr (14, [.ref now, .ref fc])), (now, .inr (13, [.ref ro, .ref hto, .ref de, .ref cr, .ref co, .ref sh, .ref eo, .int 0, .int 0, .int 10, .int 100, .int 50, .int 0, .int 50])), (ro, .inr (11, [.ref a0, .ref a1, .ref a2, .int 0, .int 0])), (mo, .inr (21, [.ref s0, .int 0])), (s0, .inr (20, [.ref l0, .ref l1, .ref l2, .ref l3, .ref l4, .ref l5, .ref l6, .ref l7, .ref l8, .int 10, .int 100, .int 50, .int 0, .int 0])), (l0, .inr (5, [.int 0, .ref (E 0), .int 0]))]) (hS : va_S (fun q : Nat => s.heap.size ≤ q) s.heap H locs) (hl : lv_has ls 9 [(0, .ref b), (1, .ref x), (2, .ref mo), (3, .ref oA), (4, .ref oD), (5, .int 0)]) : W p l e room_1 s m #[Value.ref b] below meth c H locs 76 1481 (lw_Z below #[Value.ref b] s) (F0 m 684 ls []) := by
  obtain ⟨hx, hb, hr, hml, hown, hts, hX, hbl, hlocks, hgv⟩ := id C0
  have hA : ∀ q : Nat, s.heap.size ≤ q → (fun q : Nat => s.heap.size ≤ q) q := fun _ h => h
  have hbA : ¬ (fun q : Nat => s.heap.size ≤ q) b := Nat.not_le.mpr hbl
  have hown : s.vm.findClass RL = some m.cls := hown
  have htl : ∀ w ∈ wsL_law, w.before #[Value.ref b] s = true := fun w h => hts w (wsL_law_in w h)
  refine lv_aload_n hx hb dL_law_684 rfl (lv_at hl 1 rfl) ?_
  refine lv_aload_n hx hb dL_law_685 rfl (lv_at hl 0 rfl) ?_
  refine lv_iload hx hb dL_law_686 (lv_at hl 5 rfl) ?_
  refine lv_iconst (v := 1) hx hb dL_law_688 (by decide) ?_
  refine lv_iadd hx hb dL_law_689 ?_
  refine lv_topi (fun z_1 ez_1 => ?_)
  obtain rfl : z_1 = 1 := ez_1.trans (by decide)
  refine va_sld hx hb hX hbl hbA hS (by unfold vp_in; decide) dL_law_690 ?_
  refine lv_topi (fun z_2 ez_2 => ?_)
  obtain rfl : sv1 = z_2 := hv1.trans ez_2.symm
  refine lv_aload_n hx hb dL_law_691 rfl (lv_at hl 3 rfl) ?_
  have hPc := hP.sub (ws' := [(x, .inr (14, [.ref now, .ref fc])), (now, .inr (13, [.ref ro, .ref hto, .ref de, .ref cr, .ref co, .ref sh, .ref eo, .int 0, .int 0, .int 10, .int 100, .int 50, .int 0, .int 50])), (ro, .inr (11, [.ref a0, .ref a1, .ref a2, .int 0, .int 0]))]) [0, 1, 2] rfl
  have hDc := hD.sub (ws' := [(x, .inr (14, [.ref now, .ref fc])), (now, .inr (13, [.ref ro, .ref hto, .ref de, .ref cr, .ref co, .ref sh, .ref eo, .int 0, .int 0, .int 10, .int 100, .int 50, .int 0, .int 50])), (ro, .inr (11, [.ref a0, .ref a1, .ref a2, .int 0, .int 0]))]) [0, 1, 2] (by decide) rfl
  have hKc := hK.sub (tys' := []) [] rfl
  have hFc := va_free (wc := [(x, .inr (14, [.ref now, .ref fc])), (now, .inr (13, [.ref ro, .ref hto, .ref de, .ref cr, .ref co, .ref sh, .ref eo, .int 0, .int 0, .int 10, .int 100, .int 50, .int 0, .int 50])), (ro, .inr (11, [.ref a0, .ref a1, .ref a2, .int 0, .int 0]))]) hD hS hA [0, 1, 2] rfl
  refine vx_calli (vx_runSX (As := [.ref x, .int sv1, .ref oA]) (rest := []) ⟨hx, hb, hml, hown, htl⟩ (c_w_board l hst dC dI E x now fc ro hto de cr co sh eo a0 a1 a2 sv1 oA H.size) (vx_cwSW 3 htl gL_law_L_board rfl rfl rfl (by decide +kernel) ⟨(Nat.le_of_ble_eq_true rfl), (Nat.le_of_ble_eq_true rfl)⟩) ⟨pre_blind, pre_call hPc hDc hKc hFc hE hZ hS⟩ rfl rfl hl.1 rfl (lv_room (Nat.le_of_ble_eq_true rfl)) dL_law_692 ⟨(Nat.le_of_ble_eq_true rfl), (Nat.le_of_ble_eq_true rfl)⟩) hS (fun q _ h => hFc q h) hFc (fun q _ h => hFc q h) (fun E9 ce q9 u t H1 locs1 ht hvm hw hB hz1 hk1 hS hc9 hv9 hf9 => hw.elim) (fun r u t H1 locs1 ht hvm hw hB hz1 hk1 hS => ?_)
  have hw9 : r = 1 := hw
  rw [hw9]
  obtain ⟨hP, hD, hK⟩ := pst_drop (wc := [(x, .inr (14, [.ref now, .ref fc])), (now, .inr (13, [.ref ro, .ref hto, .ref de, .ref cr, .ref co, .ref sh, .ref eo, .int 0, .int 0, .int 10, .int 100, .int 50, .int 0, .int 50])), (ro, .inr (11, [.ref a0, .ref a1, .ref a2, .int 0, .int 0]))]) (wr := [(mo, .inr (21, [.ref s0, .int 0])), (s0, .inr (20, [.ref l0, .ref l1, .ref l2, .ref l3, .ref l4, .ref l5, .ref l6, .ref l7, .ref l8, .int 10, .int 100, .int 50, .int 0, .int 0])), (l0, .inr (5, [.int 0, .ref (E 0), .int 0]))]) (tr := []) hP hD hK [0, 1, 2] [3, 4, 5] [] rfl rfl rfl (by decide) (by decide) hk1 hFc
  generalize H1 = H at hP hS ⊢
  have hP : va_P (dC, dI) vwCl [(mo, .inr (21, [.ref s0, .int 0])), (s0, .inr (20, [.ref l0, .ref l1, .ref l2, .ref l3, .ref l4, .ref l5, .ref l6, .ref l7, .ref l8, .int 10, .int 100, .int 50, .int 0, .int 0])), (l0, .inr (5, [.int 0, .ref (E 0), .int 0]))] H := hP
  have hD : va_D (fun q : Nat => s.heap.size ≤ q) [(mo, .inr (21, [.ref s0, .int 0])), (s0, .inr (20, [.ref l0, .ref l1, .ref l2, .ref l3, .ref l4, .ref l5, .ref l6, .ref l7, .ref l8, .int 10, .int 100, .int 50, .int 0, .int 0])), (l0, .inr (5, [.int 0, .ref (E 0), .int 0]))] := hD
  have hK : va_K (dC, dI) vwCl [] s := hK
  refine W.widen (k := 77) (n := 1487) (Nat.le_of_ble_eq_true rfl) (Nat.le_of_ble_eq_true rfl) ?_
  refine lv_istore (lv' := [(6, .int 1), (0, .ref b), (1, .ref x), (2, .ref mo), (3, .ref oA), (4, .ref oD), (5, .int 0)]) hx hb dL_law_695 hl (by decide) rfl (fun ls hl => ?_)
  refine lv_aload_n hx hb dL_law_697 rfl (lv_at hl 3 rfl) ?_
  refine lv_aload_n hx hb dL_law_698 rfl (lv_at hl 1 rfl) ?_
  refine lv_iload hx hb dL_law_699 (lv_at hl 6 rfl) ?_
  refine lv_iconst (v := 1) hx hb dL_law_701 (by decide) ?_
  refine lv_iadd hx hb dL_law_702 ?_
  refine lv_topi (fun z_4 ez_4 => ?_)
  obtain rfl : z_4 = 1 := ez_4.trans (by decide)
  refine va_sld hx hb hX hbl hbA hS (by unfold vp_in; decide) dL_law_703 ?_
  refine lv_topi (fun z_5 ez_5 => ?_)
  obtain rfl : sv1 = z_5 := hv1.trans ez_5.symm
  have hPc := hP.sub (ws' := [(mo, .inr (21, [.ref s0, .int 0])), (s0, .inr (20, [.ref l0, .ref l1, .ref l2, .ref l3, .ref l4, .ref l5, .ref l6, .ref l7, .ref l8, .int 10, .int 100, .int 50, .int 0, .int 0])), (l0, .inr (5, [.int 0, .ref (E 0), .int 0]))]) [0, 1, 2] rfl
  have hDc := hD.sub (ws' := [(mo, .inr (21, [.ref s0, .int 0])), (s0, .inr (20, [.ref l0, .ref l1, .ref l2, .ref l3, .ref l4, .ref l5, .ref l6, .ref l7, .ref l8, .int 10, .int 100, .int 50, .int 0, .int 0])), (l0, .inr (5, [.int 0, .ref (E 0), .int 0]))]) [0, 1, 2] (by decide) rfl
  have hKc := hK.sub (tys' := []) [] rfl
  have hFc := va_free (wc := [(mo, .inr (21, [.ref s0, .int 0])), (s0, .inr (20, [.ref l0, .ref l1, .ref l2, .ref l3, .ref l4, .ref l5, .ref l6, .ref l7, .ref l8, .int 10, .int 100, .int 50, .int 0, .int 0])), (l0, .inr (5, [.int 0, .ref (E 0), .int 0]))]) hD hS hA [0, 1, 2] rfl
  refine va_calli (va_runV (As := [.int sv1]) (rest := []) ⟨hx, hb, hml, hown, htl⟩ (c_rm_board l dC dI E mo s0 l0 l1 l2 l3 l4 l5 l6 l7 l8 0 sv1 H.size) (cwV 1 htl gL_law_X15_board rfl rfl rfl (by decide +kernel) ⟨(Nat.le_of_ble_eq_true rfl), (Nat.le_of_ble_eq_true rfl)⟩) ⟨pre_blind, va_recv hKc hPc (ci := 21) (q0 := 0) rfl rfl, pre_call hPc hDc hKc hFc hE hZ hS⟩ rfl rfl hl.1 rfl (lv_room (Nat.le_of_ble_eq_true rfl)) dL_law_704 ⟨(Nat.le_of_ble_eq_true rfl), (Nat.le_of_ble_eq_true rfl)⟩) hS (fun q _ h => hFc q h) hFc (fun r u t H1 locs1 ht hvm hw hB hz1 hk1 hS => ?_)
  have hw9 : r = 0 := hw
  rw [hw9]
  obtain ⟨hP, hD, hK⟩ := pst_join (wc := [(mo, .inr (21, [.ref s0, .int 0])), (s0, .inr (20, [.ref l0, .ref l1, .ref l2, .ref l3, .ref l4, .ref l5, .ref l6, .ref l7, .ref l8, .int 10, .int 100, .int 50, .int 0, .int 0])), (l0, .inr (5, [.int 0, .ref (E 0), .int 0]))]) (wr := []) (w1 := [(mo, .inr (21, [.ref s0, .int 1]))]) (tr := []) (t1 := []) hP hD hK [0, 1, 2] [] [] rfl rfl rfl (by decide) (by decide) hk1 hFc ht hvm hB
  generalize H1 = H at hP hS ⊢
  have hP : va_P (dC, dI) vwCl [(mo, .inr (21, [.ref s0, .int 1]))] H := hP
  have hD : va_D (fun q : Nat => s.heap.size ≤ q) [(mo, .inr (21, [.ref s0, .int 1]))] := hD
  have hK : va_K (dC, dI) vwCl [] s := hK
  refine W.widen (k := 77) (n := 1487) (Nat.le_of_ble_eq_true rfl) (Nat.le_of_ble_eq_true rfl) ?_
  refine lv_istore (lv' := [(7, .int 0), (6, .int 1), (0, .ref b), (1, .ref x), (2, .ref mo), (3, .ref oA), (4, .ref oD), (5, .int 0)]) hx hb dL_law_707 hl (by decide) rfl (fun ls hl => ?_)
  refine lv_aload_n hx hb dL_law_709 rfl (lv_at hl 4 rfl) ?_
  have hPc := hP.sub (ws' := [(mo, .inr (21, [.ref s0, .int 1]))]) [0] rfl
  have hDc := hD.sub (ws' := [(mo, .inr (21, [.ref s0, .int 1]))]) [0] (by decide) rfl
  have hKc := hK.sub (tys' := []) [] rfl
  have hFc := va_free (wc := [(mo, .inr (21, [.ref s0, .int 1]))]) hD hS hA [0] rfl
  refine va_calli (va_runV (As := []) (rest := []) ⟨hx, hb, hml, hown, htl⟩ (c_rm_thrown l dC dI E mo s0 1 H.size) (cwV 0 htl gL_law_X15_thrown rfl rfl rfl (by decide +kernel) ⟨(Nat.le_of_ble_eq_true rfl), (Nat.le_of_ble_eq_true rfl)⟩) ⟨pre_blind, va_recv hKc hPc (ci := 21) (q0 := 0) rfl rfl, pre_call hPc hDc hKc hFc hE hZ hS⟩ rfl rfl hl.1 rfl (lv_room (Nat.le_of_ble_eq_true rfl)) dL_law_710 ⟨(Nat.le_of_ble_eq_true rfl), (Nat.le_of_ble_eq_true rfl)⟩) hS (fun q _ h => hFc q h) hFc (fun r u t H1 locs1 ht hvm hw hB hz1 hk1 hS => ?_)
  have hw9 : r = 1 := hw
  rw [hw9]
  obtain ⟨hP, hD, hK⟩ := pst_join (wc := [(mo, .inr (21, [.ref s0, .int 1]))]) (wr := []) (w1 := [(mo, .inr (21, [.ref s0, .int 1]))]) (tr := []) (t1 := []) hP hD hK [0] [] [] rfl rfl rfl (by decide) (by decide) hk1 hFc ht hvm hB
  generalize H1 = H at hP hS ⊢
  have hP : va_P (dC, dI) vwCl [(mo, .inr (21, [.ref s0, .int 1]))] H := hP
  have hD : va_D (fun q : Nat => s.heap.size ≤ q) [(mo, .inr (21, [.ref s0, .int 1]))] := hD
  have hK : va_K (dC, dI) vwCl [] s := hK
  refine W.widen (k := 77) (n := 1487) (Nat.le_of_ble_eq_true rfl) (Nat.le_of_ble_eq_true rfl) ?_
  refine lv_iload hx hb dL_law_713 (lv_at hl 1 rfl) ?_
  refine lv_icmp_eq (tgt := 720) hx hb dL_law_715 (by decide) (fun _ => ?_) (fun c9 => absurd (by decide) c9)
  refine lv_iload hx hb dL_law_720 (lv_at hl 1 rfl) ?_
  refine lv_if_ne (tgt := 737) hx hb dL_law_722 (by decide) (fun _ => ?_) (fun c9 => absurd c9 (by decide))
  refine lv_goto (tgt := 1756) hx hb dL_law_737 (by decide) ?_
  exact law_end C0 hS (lv_sub hl [2, 7] rfl) (Nat.le_of_ble_eq_true rfl) (Nat.le_of_ble_eq_true rfl)

set_option maxHeartbeats 4000000 in
set_option maxRecDepth 100000 in
theorem law_move {p : Program} {l : Launch} {e : Env} {s : State} {m : MethodId} {below : List Frame} {meth : Method} {c : Code} {b : Nat} {xs : Nat → Int32} {dC : Nat → ClassId} {dI : Nat → Nat → Nat} {E : Nat → Nat} {sv1 : Int32} {sv2 : Int32} {sv3 : Int32} {sv4 : Int32} {sk1 : Int32} {sk2 : Int32} {x : Nat} {now : Nat} {fc : Nat} {ro : Nat} {hto : Nat} {de : Nat} {cr : Nat} {co : Nat} {sh : Nat} {eo : Nat} {w0 : Nat} {w1 : Nat} {w2 : Nat} {w3 : Nat} {mo : Nat} {s0 : Nat} {l0 : Nat} {l1 : Nat} {l2 : Nat} {l3 : Nat} {l4 : Nat} {l5 : Nat} {l6 : Nat} {l7 : Nat} {l8 : Nat} {oA : Nat} {oD : Nat} (hst : l.stackTraces = false) (C0 : lw_At p s m meth c b 5 xs) (hE : ev E s) (hZ : es E (fun q : Nat => s.heap.size ≤ q) s s.heap) (hv1 : sv1 = xs (1 : Int32).toNatClampNeg) (hv2 : sv2 = xs (2 : Int32).toNatClampNeg) (hv3 : sv3 = xs (3 : Int32).toNatClampNeg) (hv4 : sv4 = xs (4 : Int32).toNatClampNeg) (hch1 : sk1 = (sv1.toUInt32 % 65536).toInt32) (hch2 : sk2 = (sv2.toUInt32 % 65536).toInt32) {H : Heap} {locs : List Loc} {ls : Array Slot} (hK : va_K (dC, dI) vwCl [] s) (hP : va_P (dC, dI) vwCl [(x, .inr (14, [.ref now, .ref fc])), (now, .inr (13, [.ref ro, .ref hto, .ref de, .ref cr, .ref co, .ref sh, .ref eo, .int 0, .int 0, .int 10, .int 100, .int 50, .int 0, .int 50])), (cr, .inr (7, [.ref w0, .ref w1, .ref w2, .ref w3, .int 0, .int 0])), (mo, .inr (21, [.ref s0, .int 0])), (s0, .inr (20, [.ref l0, .ref l1, .ref l2, .ref l3, .ref l4, .ref l5, .ref l6, .ref l7, .ref l8, .int 10, .int 100, .int 50, .int 0, .int 0])), (l5, .inr (5, [.int 0, .ref (E 0), .int 0]))] H) (hD : va_D (fun q : Nat => s.heap.size ≤ q) [(x, .inr (14, [.ref now, .ref fc])), (now, .inr (13, [.ref ro, .ref hto, .ref de, .ref cr, .ref co, .ref sh, .ref eo, .int 0, .int 0, .int 10, .int 100, .int 50, .int 0, .int 50])), (cr, .inr (7, [.ref w0, .ref w1, .ref w2, .ref w3, .int 0, .int 0])), (mo, .inr (21, [.ref s0, .int 0])), (s0, .inr (20, [.ref l0, .ref l1, .ref l2, .ref l3, .ref l4, .ref l5, .ref l6, .ref l7, .ref l8, .int 10, .int 100, .int 50, .int 0, .int 0])), (l5, .inr (5, [.int 0, .ref (E 0), .int 0]))]) (hS : va_S (fun q : Nat => s.heap.size ≤ q) s.heap H locs) (hl : lv_has ls 9 [(0, .ref b), (1, .ref x), (2, .ref mo), (3, .ref oA), (4, .ref oD), (5, .int 0)]) : W p l e room_1 s m #[Value.ref b] below meth c H locs 76 1481 (lw_Z below #[Value.ref b] s) (F0 m 740 ls []) := by
  obtain ⟨hx, hb, hr, hml, hown, hts, hX, hbl, hlocks, hgv⟩ := id C0
  have hA : ∀ q : Nat, s.heap.size ≤ q → (fun q : Nat => s.heap.size ≤ q) q := fun _ h => h
  have hbA : ¬ (fun q : Nat => s.heap.size ≤ q) b := Nat.not_le.mpr hbl
  have hown : s.vm.findClass RL = some m.cls := hown
  have htl : ∀ w ∈ wsL_law, w.before #[Value.ref b] s = true := fun w h => hts w (wsL_law_in w h)
  refine lv_aload_n hx hb dL_law_740 rfl (lv_at hl 1 rfl) ?_
  refine lv_aload_n hx hb dL_law_741 rfl (lv_at hl 0 rfl) ?_
  refine lv_iload hx hb dL_law_742 (lv_at hl 5 rfl) ?_
  refine lv_iconst (v := 1) hx hb dL_law_744 (by decide) ?_
  refine lv_iadd hx hb dL_law_745 ?_
  refine lv_topi (fun z_1 ez_1 => ?_)
  obtain rfl : z_1 = 1 := ez_1.trans (by decide)
  refine va_sld hx hb hX hbl hbA hS (by unfold vp_in; decide) dL_law_746 ?_
  refine lv_topi (fun z_2 ez_2 => ?_)
  obtain rfl : sv1 = z_2 := hv1.trans ez_2.symm
  refine lv_aload_n hx hb dL_law_747 rfl (lv_at hl 0 rfl) ?_
  refine lv_iload hx hb dL_law_748 (lv_at hl 5 rfl) ?_
  refine lv_iconst (v := 2) hx hb dL_law_750 (by decide) ?_
  refine lv_iadd hx hb dL_law_751 ?_
  refine lv_topi (fun z_3 ez_3 => ?_)
  obtain rfl : z_3 = 2 := ez_3.trans (by decide)
  refine va_sld hx hb hX hbl hbA hS (by unfold vp_in; decide) dL_law_752 ?_
  refine lv_topi (fun z_4 ez_4 => ?_)
  obtain rfl : sv2 = z_4 := hv2.trans ez_4.symm
  refine lv_aload_n hx hb dL_law_753 rfl (lv_at hl 3 rfl) ?_
  have hPc := hP.sub (ws' := [(x, .inr (14, [.ref now, .ref fc])), (now, .inr (13, [.ref ro, .ref hto, .ref de, .ref cr, .ref co, .ref sh, .ref eo, .int 0, .int 0, .int 10, .int 100, .int 50, .int 0, .int 50])), (cr, .inr (7, [.ref w0, .ref w1, .ref w2, .ref w3, .int 0, .int 0]))]) [0, 1, 2] rfl
  have hDc := hD.sub (ws' := [(x, .inr (14, [.ref now, .ref fc])), (now, .inr (13, [.ref ro, .ref hto, .ref de, .ref cr, .ref co, .ref sh, .ref eo, .int 0, .int 0, .int 10, .int 100, .int 50, .int 0, .int 50])), (cr, .inr (7, [.ref w0, .ref w1, .ref w2, .ref w3, .int 0, .int 0]))]) [0, 1, 2] (by decide) rfl
  have hKc := hK.sub (tys' := []) [] rfl
  have hFc := va_free (wc := [(x, .inr (14, [.ref now, .ref fc])), (now, .inr (13, [.ref ro, .ref hto, .ref de, .ref cr, .ref co, .ref sh, .ref eo, .int 0, .int 0, .int 10, .int 100, .int 50, .int 0, .int 50])), (cr, .inr (7, [.ref w0, .ref w1, .ref w2, .ref w3, .int 0, .int 0]))]) hD hS hA [0, 1, 2] rfl
  refine vx_calli (vx_runSX (As := [.ref x, .int sv1, .int sv2, .ref oA]) (rest := []) ⟨hx, hb, hml, hown, htl⟩ (c_w_move l hst dC dI E x now fc ro hto de cr co sh eo w0 w1 w2 w3 sv1 sv2 oA H.size) (vx_cwSW 4 htl gL_law_L_move rfl rfl rfl (by decide +kernel) ⟨(Nat.le_of_ble_eq_true rfl), (Nat.le_of_ble_eq_true rfl)⟩) ⟨pre_blind, pre_call hPc hDc hKc hFc hE hZ hS⟩ rfl rfl hl.1 rfl (lv_room (Nat.le_of_ble_eq_true rfl)) dL_law_754 ⟨(Nat.le_of_ble_eq_true rfl), (Nat.le_of_ble_eq_true rfl)⟩) hS (fun q _ h => hFc q h) hFc (fun q _ h => hFc q h) (fun E9 ce q9 u t H1 locs1 ht hvm hw hB hz1 hk1 hS hc9 hv9 hf9 => hw.elim) (fun r u t H1 locs1 ht hvm hw hB hz1 hk1 hS => ?_)
  have hw9 : r = 1 := hw
  rw [hw9]
  obtain ⟨hP, hD, hK⟩ := pst_drop (wc := [(x, .inr (14, [.ref now, .ref fc])), (now, .inr (13, [.ref ro, .ref hto, .ref de, .ref cr, .ref co, .ref sh, .ref eo, .int 0, .int 0, .int 10, .int 100, .int 50, .int 0, .int 50])), (cr, .inr (7, [.ref w0, .ref w1, .ref w2, .ref w3, .int 0, .int 0]))]) (wr := [(mo, .inr (21, [.ref s0, .int 0])), (s0, .inr (20, [.ref l0, .ref l1, .ref l2, .ref l3, .ref l4, .ref l5, .ref l6, .ref l7, .ref l8, .int 10, .int 100, .int 50, .int 0, .int 0])), (l5, .inr (5, [.int 0, .ref (E 0), .int 0]))]) (tr := []) hP hD hK [0, 1, 2] [3, 4, 5] [] rfl rfl rfl (by decide) (by decide) hk1 hFc
  generalize H1 = H at hP hS ⊢
  have hP : va_P (dC, dI) vwCl [(mo, .inr (21, [.ref s0, .int 0])), (s0, .inr (20, [.ref l0, .ref l1, .ref l2, .ref l3, .ref l4, .ref l5, .ref l6, .ref l7, .ref l8, .int 10, .int 100, .int 50, .int 0, .int 0])), (l5, .inr (5, [.int 0, .ref (E 0), .int 0]))] H := hP
  have hD : va_D (fun q : Nat => s.heap.size ≤ q) [(mo, .inr (21, [.ref s0, .int 0])), (s0, .inr (20, [.ref l0, .ref l1, .ref l2, .ref l3, .ref l4, .ref l5, .ref l6, .ref l7, .ref l8, .int 10, .int 100, .int 50, .int 0, .int 0])), (l5, .inr (5, [.int 0, .ref (E 0), .int 0]))] := hD
  have hK : va_K (dC, dI) vwCl [] s := hK
  refine W.widen (k := 77) (n := 1487) (Nat.le_of_ble_eq_true rfl) (Nat.le_of_ble_eq_true rfl) ?_
  refine lv_istore (lv' := [(6, .int 1), (0, .ref b), (1, .ref x), (2, .ref mo), (3, .ref oA), (4, .ref oD), (5, .int 0)]) hx hb dL_law_757 hl (by decide) rfl (fun ls hl => ?_)
  refine lv_aload_n hx hb dL_law_759 rfl (lv_at hl 3 rfl) ?_
  refine lv_aload_n hx hb dL_law_760 rfl (lv_at hl 1 rfl) ?_
  refine lv_iload hx hb dL_law_761 (lv_at hl 6 rfl) ?_
  refine lv_iconst (v := 1) hx hb dL_law_763 (by decide) ?_
  refine lv_iadd hx hb dL_law_764 ?_
  refine lv_topi (fun z_6 ez_6 => ?_)
  obtain rfl : z_6 = 1 := ez_6.trans (by decide)
  refine va_sld hx hb hX hbl hbA hS (by unfold vp_in; decide) dL_law_765 ?_
  refine lv_topi (fun z_7 ez_7 => ?_)
  obtain rfl : sv1 = z_7 := hv1.trans ez_7.symm
  refine lv_aload_n hx hb dL_law_766 rfl (lv_at hl 1 rfl) ?_
  refine lv_iload hx hb dL_law_767 (lv_at hl 6 rfl) ?_
  refine lv_iconst (v := 2) hx hb dL_law_769 (by decide) ?_
  refine lv_iadd hx hb dL_law_770 ?_
  refine lv_topi (fun z_8 ez_8 => ?_)
  obtain rfl : z_8 = 2 := ez_8.trans (by decide)
  refine va_sld hx hb hX hbl hbA hS (by unfold vp_in; decide) dL_law_771 ?_
  refine lv_topi (fun z_9 ez_9 => ?_)
  obtain rfl : sv2 = z_9 := hv2.trans ez_9.symm
  have hPc := hP.sub (ws' := [(mo, .inr (21, [.ref s0, .int 0])), (s0, .inr (20, [.ref l0, .ref l1, .ref l2, .ref l3, .ref l4, .ref l5, .ref l6, .ref l7, .ref l8, .int 10, .int 100, .int 50, .int 0, .int 0])), (l5, .inr (5, [.int 0, .ref (E 0), .int 0]))]) [0, 1, 2] rfl
  have hDc := hD.sub (ws' := [(mo, .inr (21, [.ref s0, .int 0])), (s0, .inr (20, [.ref l0, .ref l1, .ref l2, .ref l3, .ref l4, .ref l5, .ref l6, .ref l7, .ref l8, .int 10, .int 100, .int 50, .int 0, .int 0])), (l5, .inr (5, [.int 0, .ref (E 0), .int 0]))]) [0, 1, 2] (by decide) rfl
  have hKc := hK.sub (tys' := []) [] rfl
  have hFc := va_free (wc := [(mo, .inr (21, [.ref s0, .int 0])), (s0, .inr (20, [.ref l0, .ref l1, .ref l2, .ref l3, .ref l4, .ref l5, .ref l6, .ref l7, .ref l8, .int 10, .int 100, .int 50, .int 0, .int 0])), (l5, .inr (5, [.int 0, .ref (E 0), .int 0]))]) hD hS hA [0, 1, 2] rfl
  refine va_calli (va_runV (As := [.int sv1, .int sv2]) (rest := []) ⟨hx, hb, hml, hown, htl⟩ (c_rm_move l dC dI E mo s0 l0 l1 l2 l3 l4 l5 l6 l7 l8 0 sv1 sv2 H.size) (cwV 2 htl gL_law_X15_move rfl rfl rfl (by decide +kernel) ⟨(Nat.le_of_ble_eq_true rfl), (Nat.le_of_ble_eq_true rfl)⟩) ⟨pre_blind, va_recv hKc hPc (ci := 21) (q0 := 0) rfl rfl, pre_call hPc hDc hKc hFc hE hZ hS⟩ rfl rfl hl.1 rfl (lv_room (Nat.le_of_ble_eq_true rfl)) dL_law_772 ⟨(Nat.le_of_ble_eq_true rfl), (Nat.le_of_ble_eq_true rfl)⟩) hS (fun q _ h => hFc q h) hFc (fun r u t H1 locs1 ht hvm hw hB hz1 hk1 hS => ?_)
  have hw9 : r = 0 := hw
  rw [hw9]
  obtain ⟨hP, hD, hK⟩ := pst_join (wc := [(mo, .inr (21, [.ref s0, .int 0])), (s0, .inr (20, [.ref l0, .ref l1, .ref l2, .ref l3, .ref l4, .ref l5, .ref l6, .ref l7, .ref l8, .int 10, .int 100, .int 50, .int 0, .int 0])), (l5, .inr (5, [.int 0, .ref (E 0), .int 0]))]) (wr := []) (w1 := [(mo, .inr (21, [.ref s0, .int 1]))]) (tr := []) (t1 := []) hP hD hK [0, 1, 2] [] [] rfl rfl rfl (by decide) (by decide) hk1 hFc ht hvm hB
  generalize H1 = H at hP hS ⊢
  have hP : va_P (dC, dI) vwCl [(mo, .inr (21, [.ref s0, .int 1]))] H := hP
  have hD : va_D (fun q : Nat => s.heap.size ≤ q) [(mo, .inr (21, [.ref s0, .int 1]))] := hD
  have hK : va_K (dC, dI) vwCl [] s := hK
  refine W.widen (k := 77) (n := 1487) (Nat.le_of_ble_eq_true rfl) (Nat.le_of_ble_eq_true rfl) ?_
  refine lv_istore (lv' := [(7, .int 0), (6, .int 1), (0, .ref b), (1, .ref x), (2, .ref mo), (3, .ref oA), (4, .ref oD), (5, .int 0)]) hx hb dL_law_775 hl (by decide) rfl (fun ls hl => ?_)
  refine lv_aload_n hx hb dL_law_777 rfl (lv_at hl 4 rfl) ?_
  have hPc := hP.sub (ws' := [(mo, .inr (21, [.ref s0, .int 1]))]) [0] rfl
  have hDc := hD.sub (ws' := [(mo, .inr (21, [.ref s0, .int 1]))]) [0] (by decide) rfl
  have hKc := hK.sub (tys' := []) [] rfl
  have hFc := va_free (wc := [(mo, .inr (21, [.ref s0, .int 1]))]) hD hS hA [0] rfl
  refine va_calli (va_runV (As := []) (rest := []) ⟨hx, hb, hml, hown, htl⟩ (c_rm_thrown l dC dI E mo s0 1 H.size) (cwV 0 htl gL_law_X15_thrown rfl rfl rfl (by decide +kernel) ⟨(Nat.le_of_ble_eq_true rfl), (Nat.le_of_ble_eq_true rfl)⟩) ⟨pre_blind, va_recv hKc hPc (ci := 21) (q0 := 0) rfl rfl, pre_call hPc hDc hKc hFc hE hZ hS⟩ rfl rfl hl.1 rfl (lv_room (Nat.le_of_ble_eq_true rfl)) dL_law_778 ⟨(Nat.le_of_ble_eq_true rfl), (Nat.le_of_ble_eq_true rfl)⟩) hS (fun q _ h => hFc q h) hFc (fun r u t H1 locs1 ht hvm hw hB hz1 hk1 hS => ?_)
  have hw9 : r = 1 := hw
  rw [hw9]
  obtain ⟨hP, hD, hK⟩ := pst_join (wc := [(mo, .inr (21, [.ref s0, .int 1]))]) (wr := []) (w1 := [(mo, .inr (21, [.ref s0, .int 1]))]) (tr := []) (t1 := []) hP hD hK [0] [] [] rfl rfl rfl (by decide) (by decide) hk1 hFc ht hvm hB
  generalize H1 = H at hP hS ⊢
  have hP : va_P (dC, dI) vwCl [(mo, .inr (21, [.ref s0, .int 1]))] H := hP
  have hD : va_D (fun q : Nat => s.heap.size ≤ q) [(mo, .inr (21, [.ref s0, .int 1]))] := hD
  have hK : va_K (dC, dI) vwCl [] s := hK
  refine W.widen (k := 77) (n := 1487) (Nat.le_of_ble_eq_true rfl) (Nat.le_of_ble_eq_true rfl) ?_
  refine lv_iload hx hb dL_law_781 (lv_at hl 1 rfl) ?_
  refine lv_icmp_eq (tgt := 788) hx hb dL_law_783 (by decide) (fun _ => ?_) (fun c9 => absurd (by decide) c9)
  refine lv_iload hx hb dL_law_788 (lv_at hl 1 rfl) ?_
  refine lv_if_ne (tgt := 805) hx hb dL_law_790 (by decide) (fun _ => ?_) (fun c9 => absurd c9 (by decide))
  refine lv_goto (tgt := 1756) hx hb dL_law_805 (by decide) ?_
  exact law_end C0 hS (lv_sub hl [2, 7] rfl) (Nat.le_of_ble_eq_true rfl) (Nat.le_of_ble_eq_true rfl)

set_option maxHeartbeats 4000000 in
set_option maxRecDepth 100000 in
theorem law_setTask {p : Program} {l : Launch} {e : Env} {s : State} {m : MethodId} {below : List Frame} {meth : Method} {c : Code} {b : Nat} {xs : Nat → Int32} {dC : Nat → ClassId} {dI : Nat → Nat → Nat} {E : Nat → Nat} {sv1 : Int32} {sv2 : Int32} {sv3 : Int32} {sv4 : Int32} {sk1 : Int32} {sk2 : Int32} {x : Nat} {now : Nat} {fc : Nat} {ro : Nat} {hto : Nat} {de : Nat} {cr : Nat} {co : Nat} {sh : Nat} {eo : Nat} {w0 : Nat} {w1 : Nat} {w2 : Nat} {w3 : Nat} {mo : Nat} {s0 : Nat} {l0 : Nat} {l1 : Nat} {l2 : Nat} {l3 : Nat} {l4 : Nat} {l5 : Nat} {l6 : Nat} {l7 : Nat} {l8 : Nat} {oA : Nat} {oD : Nat} (hst : l.stackTraces = false) (C0 : lw_At p s m meth c b 5 xs) (hE : ev E s) (hZ : es E (fun q : Nat => s.heap.size ≤ q) s s.heap) (hv1 : sv1 = xs (1 : Int32).toNatClampNeg) (hv2 : sv2 = xs (2 : Int32).toNatClampNeg) (hv3 : sv3 = xs (3 : Int32).toNatClampNeg) (hv4 : sv4 = xs (4 : Int32).toNatClampNeg) (hch1 : sk1 = (sv1.toUInt32 % 65536).toInt32) (hch2 : sk2 = (sv2.toUInt32 % 65536).toInt32) {H : Heap} {locs : List Loc} {ls : Array Slot} (hK : va_K (dC, dI) vwCl [] s) (hP : va_P (dC, dI) vwCl [(x, .inr (14, [.ref now, .ref fc])), (now, .inr (13, [.ref ro, .ref hto, .ref de, .ref cr, .ref co, .ref sh, .ref eo, .int 0, .int 0, .int 10, .int 100, .int 50, .int 0, .int 50])), (cr, .inr (7, [.ref w0, .ref w1, .ref w2, .ref w3, .int 0, .int 0])), (mo, .inr (21, [.ref s0, .int 0])), (s0, .inr (20, [.ref l0, .ref l1, .ref l2, .ref l3, .ref l4, .ref l5, .ref l6, .ref l7, .ref l8, .int 10, .int 100, .int 50, .int 0, .int 0])), (l5, .inr (5, [.int 0, .ref (E 0), .int 0]))] H) (hD : va_D (fun q : Nat => s.heap.size ≤ q) [(x, .inr (14, [.ref now, .ref fc])), (now, .inr (13, [.ref ro, .ref hto, .ref de, .ref cr, .ref co, .ref sh, .ref eo, .int 0, .int 0, .int 10, .int 100, .int 50, .int 0, .int 50])), (cr, .inr (7, [.ref w0, .ref w1, .ref w2, .ref w3, .int 0, .int 0])), (mo, .inr (21, [.ref s0, .int 0])), (s0, .inr (20, [.ref l0, .ref l1, .ref l2, .ref l3, .ref l4, .ref l5, .ref l6, .ref l7, .ref l8, .int 10, .int 100, .int 50, .int 0, .int 0])), (l5, .inr (5, [.int 0, .ref (E 0), .int 0]))]) (hS : va_S (fun q : Nat => s.heap.size ≤ q) s.heap H locs) (hl : lv_has ls 9 [(0, .ref b), (1, .ref x), (2, .ref mo), (3, .ref oA), (4, .ref oD), (5, .int 0)]) : W p l e room_1 s m #[Value.ref b] below meth c H locs 76 1481 (lw_Z below #[Value.ref b] s) (F0 m 808 ls []) := by
  obtain ⟨hx, hb, hr, hml, hown, hts, hX, hbl, hlocks, hgv⟩ := id C0
  have hA : ∀ q : Nat, s.heap.size ≤ q → (fun q : Nat => s.heap.size ≤ q) q := fun _ h => h
  have hbA : ¬ (fun q : Nat => s.heap.size ≤ q) b := Nat.not_le.mpr hbl
  have hown : s.vm.findClass RL = some m.cls := hown
  have htl : ∀ w ∈ wsL_law, w.before #[Value.ref b] s = true := fun w h => hts w (wsL_law_in w h)
  refine lv_aload_n hx hb dL_law_808 rfl (lv_at hl 1 rfl) ?_
  refine lv_aload_n hx hb dL_law_809 rfl (lv_at hl 0 rfl) ?_
  refine lv_iload hx hb dL_law_810 (lv_at hl 5 rfl) ?_
  refine lv_iconst (v := 1) hx hb dL_law_812 (by decide) ?_
  refine lv_iadd hx hb dL_law_813 ?_
  refine lv_topi (fun z_1 ez_1 => ?_)
  obtain rfl : z_1 = 1 := ez_1.trans (by decide)
  refine va_sld hx hb hX hbl hbA hS (by unfold vp_in; decide) dL_law_814 ?_
  refine lv_topi (fun z_2 ez_2 => ?_)
  obtain rfl : sv1 = z_2 := hv1.trans ez_2.symm
  refine lv_aload_n hx hb dL_law_815 rfl (lv_at hl 0 rfl) ?_
  refine lv_iload hx hb dL_law_816 (lv_at hl 5 rfl) ?_
  refine lv_iconst (v := 2) hx hb dL_law_818 (by decide) ?_
  refine lv_iadd hx hb dL_law_819 ?_
  refine lv_topi (fun z_3 ez_3 => ?_)
  obtain rfl : z_3 = 2 := ez_3.trans (by decide)
  refine va_sld hx hb hX hbl hbA hS (by unfold vp_in; decide) dL_law_820 ?_
  refine lv_topi (fun z_4 ez_4 => ?_)
  obtain rfl : sv2 = z_4 := hv2.trans ez_4.symm
  refine lv_i2c hx hb dL_law_821 rfl ?_
  refine lv_topi (fun z_5 ez_5 => ?_)
  obtain rfl : sk2 = z_5 := hch2.trans ez_5.symm
  refine lv_aload_n hx hb dL_law_822 rfl (lv_at hl 3 rfl) ?_
  have hPc := hP.sub (ws' := [(x, .inr (14, [.ref now, .ref fc])), (now, .inr (13, [.ref ro, .ref hto, .ref de, .ref cr, .ref co, .ref sh, .ref eo, .int 0, .int 0, .int 10, .int 100, .int 50, .int 0, .int 50])), (cr, .inr (7, [.ref w0, .ref w1, .ref w2, .ref w3, .int 0, .int 0]))]) [0, 1, 2] rfl
  have hDc := hD.sub (ws' := [(x, .inr (14, [.ref now, .ref fc])), (now, .inr (13, [.ref ro, .ref hto, .ref de, .ref cr, .ref co, .ref sh, .ref eo, .int 0, .int 0, .int 10, .int 100, .int 50, .int 0, .int 50])), (cr, .inr (7, [.ref w0, .ref w1, .ref w2, .ref w3, .int 0, .int 0]))]) [0, 1, 2] (by decide) rfl
  have hKc := hK.sub (tys' := []) [] rfl
  have hFc := va_free (wc := [(x, .inr (14, [.ref now, .ref fc])), (now, .inr (13, [.ref ro, .ref hto, .ref de, .ref cr, .ref co, .ref sh, .ref eo, .int 0, .int 0, .int 10, .int 100, .int 50, .int 0, .int 50])), (cr, .inr (7, [.ref w0, .ref w1, .ref w2, .ref w3, .int 0, .int 0]))]) hD hS hA [0, 1, 2] rfl
  refine vx_calli (vx_runSX (As := [.ref x, .int sv1, .int sk2, .ref oA]) (rest := []) ⟨hx, hb, hml, hown, htl⟩ (c_w_setTask l hst dC dI E x now fc ro hto de cr co sh eo w0 w1 w2 w3 sv1 sk2 oA H.size) (vx_cwSW 4 htl gL_law_L_setTask rfl rfl rfl (by decide +kernel) ⟨(Nat.le_of_ble_eq_true rfl), (Nat.le_of_ble_eq_true rfl)⟩) ⟨pre_blind, pre_call hPc hDc hKc hFc hE hZ hS⟩ rfl rfl hl.1 rfl (lv_room (Nat.le_of_ble_eq_true rfl)) dL_law_823 ⟨(Nat.le_of_ble_eq_true rfl), (Nat.le_of_ble_eq_true rfl)⟩) hS (fun q _ h => hFc q h) hFc (fun q _ h => hFc q h) (fun E9 ce q9 u t H1 locs1 ht hvm hw hB hz1 hk1 hS hc9 hv9 hf9 => hw.elim) (fun r u t H1 locs1 ht hvm hw hB hz1 hk1 hS => ?_)
  have hw9 : r = 1 := hw
  rw [hw9]
  obtain ⟨hP, hD, hK⟩ := pst_drop (wc := [(x, .inr (14, [.ref now, .ref fc])), (now, .inr (13, [.ref ro, .ref hto, .ref de, .ref cr, .ref co, .ref sh, .ref eo, .int 0, .int 0, .int 10, .int 100, .int 50, .int 0, .int 50])), (cr, .inr (7, [.ref w0, .ref w1, .ref w2, .ref w3, .int 0, .int 0]))]) (wr := [(mo, .inr (21, [.ref s0, .int 0])), (s0, .inr (20, [.ref l0, .ref l1, .ref l2, .ref l3, .ref l4, .ref l5, .ref l6, .ref l7, .ref l8, .int 10, .int 100, .int 50, .int 0, .int 0])), (l5, .inr (5, [.int 0, .ref (E 0), .int 0]))]) (tr := []) hP hD hK [0, 1, 2] [3, 4, 5] [] rfl rfl rfl (by decide) (by decide) hk1 hFc
  generalize H1 = H at hP hS ⊢
  have hP : va_P (dC, dI) vwCl [(mo, .inr (21, [.ref s0, .int 0])), (s0, .inr (20, [.ref l0, .ref l1, .ref l2, .ref l3, .ref l4, .ref l5, .ref l6, .ref l7, .ref l8, .int 10, .int 100, .int 50, .int 0, .int 0])), (l5, .inr (5, [.int 0, .ref (E 0), .int 0]))] H := hP
  have hD : va_D (fun q : Nat => s.heap.size ≤ q) [(mo, .inr (21, [.ref s0, .int 0])), (s0, .inr (20, [.ref l0, .ref l1, .ref l2, .ref l3, .ref l4, .ref l5, .ref l6, .ref l7, .ref l8, .int 10, .int 100, .int 50, .int 0, .int 0])), (l5, .inr (5, [.int 0, .ref (E 0), .int 0]))] := hD
  have hK : va_K (dC, dI) vwCl [] s := hK
  refine W.widen (k := 77) (n := 1487) (Nat.le_of_ble_eq_true rfl) (Nat.le_of_ble_eq_true rfl) ?_
  refine lv_istore (lv' := [(6, .int 1), (0, .ref b), (1, .ref x), (2, .ref mo), (3, .ref oA), (4, .ref oD), (5, .int 0)]) hx hb dL_law_826 hl (by decide) rfl (fun ls hl => ?_)
  refine lv_aload_n hx hb dL_law_828 rfl (lv_at hl 3 rfl) ?_
  refine lv_aload_n hx hb dL_law_829 rfl (lv_at hl 1 rfl) ?_
  refine lv_iload hx hb dL_law_830 (lv_at hl 6 rfl) ?_
  refine lv_iconst (v := 1) hx hb dL_law_832 (by decide) ?_
  refine lv_iadd hx hb dL_law_833 ?_
  refine lv_topi (fun z_7 ez_7 => ?_)
  obtain rfl : z_7 = 1 := ez_7.trans (by decide)
  refine va_sld hx hb hX hbl hbA hS (by unfold vp_in; decide) dL_law_834 ?_
  refine lv_topi (fun z_8 ez_8 => ?_)
  obtain rfl : sv1 = z_8 := hv1.trans ez_8.symm
  refine lv_aload_n hx hb dL_law_835 rfl (lv_at hl 1 rfl) ?_
  refine lv_iload hx hb dL_law_836 (lv_at hl 6 rfl) ?_
  refine lv_iconst (v := 2) hx hb dL_law_838 (by decide) ?_
  refine lv_iadd hx hb dL_law_839 ?_
  refine lv_topi (fun z_9 ez_9 => ?_)
  obtain rfl : z_9 = 2 := ez_9.trans (by decide)
  refine va_sld hx hb hX hbl hbA hS (by unfold vp_in; decide) dL_law_840 ?_
  refine lv_topi (fun z_10 ez_10 => ?_)
  obtain rfl : sv2 = z_10 := hv2.trans ez_10.symm
  refine lv_i2c hx hb dL_law_841 rfl ?_
  refine lv_topi (fun z_11 ez_11 => ?_)
  obtain rfl : sk2 = z_11 := hch2.trans ez_11.symm
  have hPc := hP.sub (ws' := [(mo, .inr (21, [.ref s0, .int 0])), (s0, .inr (20, [.ref l0, .ref l1, .ref l2, .ref l3, .ref l4, .ref l5, .ref l6, .ref l7, .ref l8, .int 10, .int 100, .int 50, .int 0, .int 0])), (l5, .inr (5, [.int 0, .ref (E 0), .int 0]))]) [0, 1, 2] rfl
  have hDc := hD.sub (ws' := [(mo, .inr (21, [.ref s0, .int 0])), (s0, .inr (20, [.ref l0, .ref l1, .ref l2, .ref l3, .ref l4, .ref l5, .ref l6, .ref l7, .ref l8, .int 10, .int 100, .int 50, .int 0, .int 0])), (l5, .inr (5, [.int 0, .ref (E 0), .int 0]))]) [0, 1, 2] (by decide) rfl
  have hKc := hK.sub (tys' := []) [] rfl
  have hFc := va_free (wc := [(mo, .inr (21, [.ref s0, .int 0])), (s0, .inr (20, [.ref l0, .ref l1, .ref l2, .ref l3, .ref l4, .ref l5, .ref l6, .ref l7, .ref l8, .int 10, .int 100, .int 50, .int 0, .int 0])), (l5, .inr (5, [.int 0, .ref (E 0), .int 0]))]) hD hS hA [0, 1, 2] rfl
  refine va_calli (va_runV (As := [.int sv1, .int sk2]) (rest := []) ⟨hx, hb, hml, hown, htl⟩ (c_rm_setTask l dC dI E mo s0 l0 l1 l2 l3 l4 l5 l6 l7 l8 0 sv1 sk2 H.size) (cwV 2 htl gL_law_X15_setTask rfl rfl rfl (by decide +kernel) ⟨(Nat.le_of_ble_eq_true rfl), (Nat.le_of_ble_eq_true rfl)⟩) ⟨pre_blind, va_recv hKc hPc (ci := 21) (q0 := 0) rfl rfl, pre_call hPc hDc hKc hFc hE hZ hS⟩ rfl rfl hl.1 rfl (lv_room (Nat.le_of_ble_eq_true rfl)) dL_law_842 ⟨(Nat.le_of_ble_eq_true rfl), (Nat.le_of_ble_eq_true rfl)⟩) hS (fun q _ h => hFc q h) hFc (fun r u t H1 locs1 ht hvm hw hB hz1 hk1 hS => ?_)
  have hw9 : r = 114 := hw
  rw [hw9]
  obtain ⟨hP, hD, hK⟩ := pst_join (wc := [(mo, .inr (21, [.ref s0, .int 0])), (s0, .inr (20, [.ref l0, .ref l1, .ref l2, .ref l3, .ref l4, .ref l5, .ref l6, .ref l7, .ref l8, .int 10, .int 100, .int 50, .int 0, .int 0])), (l5, .inr (5, [.int 0, .ref (E 0), .int 0]))]) (wr := []) (w1 := [(mo, .inr (21, [.ref s0, .int 1]))]) (tr := []) (t1 := []) hP hD hK [0, 1, 2] [] [] rfl rfl rfl (by decide) (by decide) hk1 hFc ht hvm hB
  generalize H1 = H at hP hS ⊢
  have hP : va_P (dC, dI) vwCl [(mo, .inr (21, [.ref s0, .int 1]))] H := hP
  have hD : va_D (fun q : Nat => s.heap.size ≤ q) [(mo, .inr (21, [.ref s0, .int 1]))] := hD
  have hK : va_K (dC, dI) vwCl [] s := hK
  refine W.widen (k := 77) (n := 1487) (Nat.le_of_ble_eq_true rfl) (Nat.le_of_ble_eq_true rfl) ?_
  refine lv_istore (lv' := [(7, .int 114), (6, .int 1), (0, .ref b), (1, .ref x), (2, .ref mo), (3, .ref oA), (4, .ref oD), (5, .int 0)]) hx hb dL_law_845 hl (by decide) rfl (fun ls hl => ?_)
  refine lv_aload_n hx hb dL_law_847 rfl (lv_at hl 4 rfl) ?_
  have hPc := hP.sub (ws' := [(mo, .inr (21, [.ref s0, .int 1]))]) [0] rfl
  have hDc := hD.sub (ws' := [(mo, .inr (21, [.ref s0, .int 1]))]) [0] (by decide) rfl
  have hKc := hK.sub (tys' := []) [] rfl
  have hFc := va_free (wc := [(mo, .inr (21, [.ref s0, .int 1]))]) hD hS hA [0] rfl
  refine va_calli (va_runV (As := []) (rest := []) ⟨hx, hb, hml, hown, htl⟩ (c_rm_thrown l dC dI E mo s0 1 H.size) (cwV 0 htl gL_law_X15_thrown rfl rfl rfl (by decide +kernel) ⟨(Nat.le_of_ble_eq_true rfl), (Nat.le_of_ble_eq_true rfl)⟩) ⟨pre_blind, va_recv hKc hPc (ci := 21) (q0 := 0) rfl rfl, pre_call hPc hDc hKc hFc hE hZ hS⟩ rfl rfl hl.1 rfl (lv_room (Nat.le_of_ble_eq_true rfl)) dL_law_848 ⟨(Nat.le_of_ble_eq_true rfl), (Nat.le_of_ble_eq_true rfl)⟩) hS (fun q _ h => hFc q h) hFc (fun r u t H1 locs1 ht hvm hw hB hz1 hk1 hS => ?_)
  have hw9 : r = 1 := hw
  rw [hw9]
  obtain ⟨hP, hD, hK⟩ := pst_join (wc := [(mo, .inr (21, [.ref s0, .int 1]))]) (wr := []) (w1 := [(mo, .inr (21, [.ref s0, .int 1]))]) (tr := []) (t1 := []) hP hD hK [0] [] [] rfl rfl rfl (by decide) (by decide) hk1 hFc ht hvm hB
  generalize H1 = H at hP hS ⊢
  have hP : va_P (dC, dI) vwCl [(mo, .inr (21, [.ref s0, .int 1]))] H := hP
  have hD : va_D (fun q : Nat => s.heap.size ≤ q) [(mo, .inr (21, [.ref s0, .int 1]))] := hD
  have hK : va_K (dC, dI) vwCl [] s := hK
  refine W.widen (k := 77) (n := 1487) (Nat.le_of_ble_eq_true rfl) (Nat.le_of_ble_eq_true rfl) ?_
  refine lv_iload hx hb dL_law_851 (lv_at hl 1 rfl) ?_
  refine lv_icmp_eq (tgt := 858) hx hb dL_law_853 (by decide) (fun _ => ?_) (fun c9 => absurd (by decide) c9)
  refine lv_iload hx hb dL_law_858 (lv_at hl 1 rfl) ?_
  refine lv_if_ne (tgt := 875) hx hb dL_law_860 (by decide) (fun _ => ?_) (fun c9 => absurd c9 (by decide))
  refine lv_goto (tgt := 1756) hx hb dL_law_875 (by decide) ?_
  exact law_end C0 hS (lv_sub hl [2, 7] rfl) (Nat.le_of_ble_eq_true rfl) (Nat.le_of_ble_eq_true rfl)

set_option maxHeartbeats 4000000 in
set_option maxRecDepth 100000 in
theorem law_send_y {p : Program} {l : Launch} {e : Env} {s : State} {m : MethodId} {below : List Frame} {meth : Method} {c : Code} {b : Nat} {xs : Nat → Int32} {dC : Nat → ClassId} {dI : Nat → Nat → Nat} {E : Nat → Nat} {sv1 : Int32} {sv2 : Int32} {sv3 : Int32} {sv4 : Int32} {sk1 : Int32} {sk2 : Int32} {x : Nat} {now : Nat} {fc : Nat} {ro : Nat} {hto : Nat} {de : Nat} {cr : Nat} {co : Nat} {sh : Nat} {eo : Nat} {g0 : Nat} {g1 : Nat} {g2 : Nat} {v0 : Nat} {v1 : Nat} {v2 : Nat} {mo : Nat} {s0 : Nat} {l0 : Nat} {l1 : Nat} {l2 : Nat} {l3 : Nat} {l4 : Nat} {l5 : Nat} {l6 : Nat} {l7 : Nat} {l8 : Nat} {oA : Nat} {oD : Nat} (hst : l.stackTraces = false) (C0 : lw_At p s m meth c b 5 xs) (hE : ev E s) (hZ : es E (fun q : Nat => s.heap.size ≤ q) s s.heap) (hv1 : sv1 = xs (1 : Int32).toNatClampNeg) (hv2 : sv2 = xs (2 : Int32).toNatClampNeg) (hv3 : sv3 = xs (3 : Int32).toNatClampNeg) (hv4 : sv4 = xs (4 : Int32).toNatClampNeg) (hch1 : sk1 = (sv1.toUInt32 % 65536).toInt32) (hch2 : sk2 = (sv2.toUInt32 % 65536).toInt32) {H : Heap} {locs : List Loc} {ls : Array Slot} (hK : va_K (dC, dI) vwCl [] s) (hP : va_P (dC, dI) vwCl [(x, .inr (14, [.ref now, .ref fc])), (now, .inr (13, [.ref ro, .ref hto, .ref de, .ref cr, .ref co, .ref sh, .ref eo, .int 0, .int 0, .int 10, .int 100, .int 50, .int 0, .int 50])), (hto, .inr (10, [.ref g0, .ref g1, .ref g2, .int 0])), (de, .inr (8, [.ref v0, .ref v1, .ref v2, .int 0, .int (-1)])), (mo, .inr (21, [.ref s0, .int 0])), (s0, .inr (20, [.ref l0, .ref l1, .ref l2, .ref l3, .ref l4, .ref l5, .ref l6, .ref l7, .ref l8, .int 10, .int 100, .int 50, .int 0, .int 0])), (l3, .inr (5, [.int 0, .ref (E 0), .int 0])), (l4, .inr (5, [.int 0, .ref (E 0), .int 0]))] H) (hD : va_D (fun q : Nat => s.heap.size ≤ q) [(x, .inr (14, [.ref now, .ref fc])), (now, .inr (13, [.ref ro, .ref hto, .ref de, .ref cr, .ref co, .ref sh, .ref eo, .int 0, .int 0, .int 10, .int 100, .int 50, .int 0, .int 50])), (hto, .inr (10, [.ref g0, .ref g1, .ref g2, .int 0])), (de, .inr (8, [.ref v0, .ref v1, .ref v2, .int 0, .int (-1)])), (mo, .inr (21, [.ref s0, .int 0])), (s0, .inr (20, [.ref l0, .ref l1, .ref l2, .ref l3, .ref l4, .ref l5, .ref l6, .ref l7, .ref l8, .int 10, .int 100, .int 50, .int 0, .int 0])), (l3, .inr (5, [.int 0, .ref (E 0), .int 0])), (l4, .inr (5, [.int 0, .ref (E 0), .int 0]))]) (hS : va_S (fun q : Nat => s.heap.size ≤ q) s.heap H locs) (hl : lv_has ls 9 [(0, .ref b), (1, .ref x), (2, .ref mo), (3, .ref oA), (4, .ref oD), (5, .int 0)]) (hk : sk1 = 110 ∨ sk1 = 102 ∨ sk1 = 111 ∨ sk1 = 104) (hla1 : ¬ sv3 < 1) (hua1 : ¬ 99 < sv3) (hla2 : ¬ sv4 < 0) (hua2 : ¬ 99 < sv4) : W p l e room_1 s m #[Value.ref b] below meth c H locs 76 1481 (lw_Z below #[Value.ref b] s) (F0 m 878 ls []) := by
  obtain ⟨hx, hb, hr, hml, hown, hts, hX, hbl, hlocks, hgv⟩ := id C0
  have hA : ∀ q : Nat, s.heap.size ≤ q → (fun q : Nat => s.heap.size ≤ q) q := fun _ h => h
  have hbA : ¬ (fun q : Nat => s.heap.size ≤ q) b := Nat.not_le.mpr hbl
  have hown : s.vm.findClass RL = some m.cls := hown
  have htl : ∀ w ∈ wsL_law, w.before #[Value.ref b] s = true := fun w h => hts w (wsL_law_in w h)
  refine lv_aload_n hx hb dL_law_878 rfl (lv_at hl 1 rfl) ?_
  refine lv_aload_n hx hb dL_law_879 rfl (lv_at hl 0 rfl) ?_
  refine lv_iload hx hb dL_law_880 (lv_at hl 5 rfl) ?_
  refine lv_iconst (v := 1) hx hb dL_law_882 (by decide) ?_
  refine lv_iadd hx hb dL_law_883 ?_
  refine lv_topi (fun z_1 ez_1 => ?_)
  obtain rfl : z_1 = 1 := ez_1.trans (by decide)
  refine va_sld hx hb hX hbl hbA hS (by unfold vp_in; decide) dL_law_884 ?_
  refine lv_topi (fun z_2 ez_2 => ?_)
  obtain rfl : sv1 = z_2 := hv1.trans ez_2.symm
  refine lv_i2c hx hb dL_law_885 rfl ?_
  refine lv_topi (fun z_3 ez_3 => ?_)
  obtain rfl : sk1 = z_3 := hch1.trans ez_3.symm
  refine lv_aload_n hx hb dL_law_886 rfl (lv_at hl 0 rfl) ?_
  refine lv_iload hx hb dL_law_887 (lv_at hl 5 rfl) ?_
  refine lv_iconst (v := 2) hx hb dL_law_889 (by decide) ?_
  refine lv_iadd hx hb dL_law_890 ?_
  refine lv_topi (fun z_4 ez_4 => ?_)
  obtain rfl : z_4 = 2 := ez_4.trans (by decide)
  refine va_sld hx hb hX hbl hbA hS (by unfold vp_in; decide) dL_law_891 ?_
  refine lv_topi (fun z_5 ez_5 => ?_)
  obtain rfl : sv2 = z_5 := hv2.trans ez_5.symm
  refine lv_aload_n hx hb dL_law_892 rfl (lv_at hl 0 rfl) ?_
  refine lv_iload hx hb dL_law_893 (lv_at hl 5 rfl) ?_
  refine lv_iconst (v := 3) hx hb dL_law_895 (by decide) ?_
  refine lv_iadd hx hb dL_law_896 ?_
  refine lv_topi (fun z_6 ez_6 => ?_)
  obtain rfl : z_6 = 3 := ez_6.trans (by decide)
  refine va_sld hx hb hX hbl hbA hS (by unfold vp_in; decide) dL_law_897 ?_
  refine lv_topi (fun z_7 ez_7 => ?_)
  obtain rfl : sv3 = z_7 := hv3.trans ez_7.symm
  refine lv_aload_n hx hb dL_law_898 rfl (lv_at hl 0 rfl) ?_
  refine lv_iload hx hb dL_law_899 (lv_at hl 5 rfl) ?_
  refine lv_iconst (v := 4) hx hb dL_law_901 (by decide) ?_
  refine lv_iadd hx hb dL_law_902 ?_
  refine lv_topi (fun z_8 ez_8 => ?_)
  obtain rfl : z_8 = 4 := ez_8.trans (by decide)
  refine va_sld hx hb hX hbl hbA hS (by unfold vp_in; decide) dL_law_903 ?_
  refine lv_topi (fun z_9 ez_9 => ?_)
  obtain rfl : sv4 = z_9 := hv4.trans ez_9.symm
  refine lv_aload_n hx hb dL_law_904 rfl (lv_at hl 3 rfl) ?_
  have hPc := hP.sub (ws' := [(x, .inr (14, [.ref now, .ref fc])), (now, .inr (13, [.ref ro, .ref hto, .ref de, .ref cr, .ref co, .ref sh, .ref eo, .int 0, .int 0, .int 10, .int 100, .int 50, .int 0, .int 50])), (de, .inr (8, [.ref v0, .ref v1, .ref v2, .int 0, .int (-1)])), (hto, .inr (10, [.ref g0, .ref g1, .ref g2, .int 0]))]) [0, 1, 3, 2] rfl
  have hDc := hD.sub (ws' := [(x, .inr (14, [.ref now, .ref fc])), (now, .inr (13, [.ref ro, .ref hto, .ref de, .ref cr, .ref co, .ref sh, .ref eo, .int 0, .int 0, .int 10, .int 100, .int 50, .int 0, .int 50])), (de, .inr (8, [.ref v0, .ref v1, .ref v2, .int 0, .int (-1)])), (hto, .inr (10, [.ref g0, .ref g1, .ref g2, .int 0]))]) [0, 1, 3, 2] (by decide) rfl
  have hKc := hK.sub (tys' := []) [] rfl
  have hFc := va_free (wc := [(x, .inr (14, [.ref now, .ref fc])), (now, .inr (13, [.ref ro, .ref hto, .ref de, .ref cr, .ref co, .ref sh, .ref eo, .int 0, .int 0, .int 10, .int 100, .int 50, .int 0, .int 50])), (de, .inr (8, [.ref v0, .ref v1, .ref v2, .int 0, .int (-1)])), (hto, .inr (10, [.ref g0, .ref g1, .ref g2, .int 0]))]) hD hS hA [0, 1, 3, 2] rfl
  refine vx_calli (vx_runSX (As := [.ref x, .int sk1, .int sv2, .int sv3, .int sv4, .ref oA]) (rest := []) ⟨hx, hb, hml, hown, htl⟩ (c_w_send_y l hst dC dI E x now fc ro hto de cr co sh eo v0 v1 v2 g0 g1 g2 sk1 sv2 sv3 sv4 oA H.size hk hla1 hua1 hla2 hua2) (vx_cwSW 6 htl gL_law_L_send rfl rfl rfl (by decide +kernel) ⟨(Nat.le_of_ble_eq_true rfl), (Nat.le_of_ble_eq_true rfl)⟩) ⟨pre_blind, pre_call hPc hDc hKc hFc hE hZ hS⟩ rfl rfl hl.1 rfl (lv_room (Nat.le_of_ble_eq_true rfl)) dL_law_905 ⟨(Nat.le_of_ble_eq_true rfl), (Nat.le_of_ble_eq_true rfl)⟩) hS (fun q _ h => hFc q h) hFc (fun q _ h => hFc q h) (fun E9 ce q9 u t H1 locs1 ht hvm hw hB hz1 hk1 hS hc9 hv9 hf9 => hw.elim) (fun r u t H1 locs1 ht hvm hw hB hz1 hk1 hS => ?_)
  have hw9 : r = 2 := hw
  rw [hw9]
  obtain ⟨hP, hD, hK⟩ := pst_drop (wc := [(x, .inr (14, [.ref now, .ref fc])), (now, .inr (13, [.ref ro, .ref hto, .ref de, .ref cr, .ref co, .ref sh, .ref eo, .int 0, .int 0, .int 10, .int 100, .int 50, .int 0, .int 50])), (de, .inr (8, [.ref v0, .ref v1, .ref v2, .int 0, .int (-1)])), (hto, .inr (10, [.ref g0, .ref g1, .ref g2, .int 0]))]) (wr := [(mo, .inr (21, [.ref s0, .int 0])), (s0, .inr (20, [.ref l0, .ref l1, .ref l2, .ref l3, .ref l4, .ref l5, .ref l6, .ref l7, .ref l8, .int 10, .int 100, .int 50, .int 0, .int 0])), (l3, .inr (5, [.int 0, .ref (E 0), .int 0])), (l4, .inr (5, [.int 0, .ref (E 0), .int 0]))]) (tr := []) hP hD hK [0, 1, 3, 2] [4, 5, 6, 7] [] rfl rfl rfl (by decide) (by decide) hk1 hFc
  generalize H1 = H at hP hS ⊢
  have hP : va_P (dC, dI) vwCl [(mo, .inr (21, [.ref s0, .int 0])), (s0, .inr (20, [.ref l0, .ref l1, .ref l2, .ref l3, .ref l4, .ref l5, .ref l6, .ref l7, .ref l8, .int 10, .int 100, .int 50, .int 0, .int 0])), (l3, .inr (5, [.int 0, .ref (E 0), .int 0])), (l4, .inr (5, [.int 0, .ref (E 0), .int 0]))] H := hP
  have hD : va_D (fun q : Nat => s.heap.size ≤ q) [(mo, .inr (21, [.ref s0, .int 0])), (s0, .inr (20, [.ref l0, .ref l1, .ref l2, .ref l3, .ref l4, .ref l5, .ref l6, .ref l7, .ref l8, .int 10, .int 100, .int 50, .int 0, .int 0])), (l3, .inr (5, [.int 0, .ref (E 0), .int 0])), (l4, .inr (5, [.int 0, .ref (E 0), .int 0]))] := hD
  have hK : va_K (dC, dI) vwCl [] s := hK
  refine W.widen (k := 77) (n := 1487) (Nat.le_of_ble_eq_true rfl) (Nat.le_of_ble_eq_true rfl) ?_
  refine lv_istore (lv' := [(6, .int 2), (0, .ref b), (1, .ref x), (2, .ref mo), (3, .ref oA), (4, .ref oD), (5, .int 0)]) hx hb dL_law_908 hl (by decide) rfl (fun ls hl => ?_)
  refine lv_aload_n hx hb dL_law_910 rfl (lv_at hl 3 rfl) ?_
  refine lv_aload_n hx hb dL_law_911 rfl (lv_at hl 1 rfl) ?_
  refine lv_iload hx hb dL_law_912 (lv_at hl 6 rfl) ?_
  refine lv_iconst (v := 1) hx hb dL_law_914 (by decide) ?_
  refine lv_iadd hx hb dL_law_915 ?_
  refine lv_topi (fun z_11 ez_11 => ?_)
  obtain rfl : z_11 = 1 := ez_11.trans (by decide)
  refine va_sld hx hb hX hbl hbA hS (by unfold vp_in; decide) dL_law_916 ?_
  refine lv_topi (fun z_12 ez_12 => ?_)
  obtain rfl : sv1 = z_12 := hv1.trans ez_12.symm
  refine lv_i2c hx hb dL_law_917 rfl ?_
  refine lv_topi (fun z_13 ez_13 => ?_)
  obtain rfl : sk1 = z_13 := hch1.trans ez_13.symm
  refine lv_aload_n hx hb dL_law_918 rfl (lv_at hl 1 rfl) ?_
  refine lv_iload hx hb dL_law_919 (lv_at hl 6 rfl) ?_
  refine lv_iconst (v := 2) hx hb dL_law_921 (by decide) ?_
  refine lv_iadd hx hb dL_law_922 ?_
  refine lv_topi (fun z_14 ez_14 => ?_)
  obtain rfl : z_14 = 2 := ez_14.trans (by decide)
  refine va_sld hx hb hX hbl hbA hS (by unfold vp_in; decide) dL_law_923 ?_
  refine lv_topi (fun z_15 ez_15 => ?_)
  obtain rfl : sv2 = z_15 := hv2.trans ez_15.symm
  refine lv_aload_n hx hb dL_law_924 rfl (lv_at hl 1 rfl) ?_
  refine lv_iload hx hb dL_law_925 (lv_at hl 6 rfl) ?_
  refine lv_iconst (v := 3) hx hb dL_law_927 (by decide) ?_
  refine lv_iadd hx hb dL_law_928 ?_
  refine lv_topi (fun z_16 ez_16 => ?_)
  obtain rfl : z_16 = 3 := ez_16.trans (by decide)
  refine va_sld hx hb hX hbl hbA hS (by unfold vp_in; decide) dL_law_929 ?_
  refine lv_topi (fun z_17 ez_17 => ?_)
  obtain rfl : sv3 = z_17 := hv3.trans ez_17.symm
  refine lv_aload_n hx hb dL_law_930 rfl (lv_at hl 1 rfl) ?_
  refine lv_iload hx hb dL_law_931 (lv_at hl 6 rfl) ?_
  refine lv_iconst (v := 4) hx hb dL_law_933 (by decide) ?_
  refine lv_iadd hx hb dL_law_934 ?_
  refine lv_topi (fun z_18 ez_18 => ?_)
  obtain rfl : z_18 = 4 := ez_18.trans (by decide)
  refine va_sld hx hb hX hbl hbA hS (by unfold vp_in; decide) dL_law_935 ?_
  refine lv_topi (fun z_19 ez_19 => ?_)
  obtain rfl : sv4 = z_19 := hv4.trans ez_19.symm
  have hPc := hP.sub (ws' := [(mo, .inr (21, [.ref s0, .int 0])), (s0, .inr (20, [.ref l0, .ref l1, .ref l2, .ref l3, .ref l4, .ref l5, .ref l6, .ref l7, .ref l8, .int 10, .int 100, .int 50, .int 0, .int 0])), (l3, .inr (5, [.int 0, .ref (E 0), .int 0])), (l4, .inr (5, [.int 0, .ref (E 0), .int 0]))]) [0, 1, 2, 3] rfl
  have hDc := hD.sub (ws' := [(mo, .inr (21, [.ref s0, .int 0])), (s0, .inr (20, [.ref l0, .ref l1, .ref l2, .ref l3, .ref l4, .ref l5, .ref l6, .ref l7, .ref l8, .int 10, .int 100, .int 50, .int 0, .int 0])), (l3, .inr (5, [.int 0, .ref (E 0), .int 0])), (l4, .inr (5, [.int 0, .ref (E 0), .int 0]))]) [0, 1, 2, 3] (by decide) rfl
  have hKc := hK.sub (tys' := []) [] rfl
  have hFc := va_free (wc := [(mo, .inr (21, [.ref s0, .int 0])), (s0, .inr (20, [.ref l0, .ref l1, .ref l2, .ref l3, .ref l4, .ref l5, .ref l6, .ref l7, .ref l8, .int 10, .int 100, .int 50, .int 0, .int 0])), (l3, .inr (5, [.int 0, .ref (E 0), .int 0])), (l4, .inr (5, [.int 0, .ref (E 0), .int 0]))]) hD hS hA [0, 1, 2, 3] rfl
  refine va_calli (va_runV (As := [.int sk1, .int sv2, .int sv3, .int sv4]) (rest := []) ⟨hx, hb, hml, hown, htl⟩ (c_rm_send_y l dC dI E mo s0 l0 l1 l2 l3 l4 l5 l6 l7 l8 0 sk1 sv2 sv3 sv4 H.size hk hla1 hua1 hla2 hua2) (cwV 4 htl gL_law_X15_send rfl rfl rfl (by decide +kernel) ⟨(Nat.le_of_ble_eq_true rfl), (Nat.le_of_ble_eq_true rfl)⟩) ⟨pre_blind, va_recv hKc hPc (ci := 21) (q0 := 0) rfl rfl, pre_call hPc hDc hKc hFc hE hZ hS⟩ rfl rfl hl.1 rfl (lv_room (Nat.le_of_ble_eq_true rfl)) dL_law_936 ⟨(Nat.le_of_ble_eq_true rfl), (Nat.le_of_ble_eq_true rfl)⟩) hS (fun q _ h => hFc q h) hFc (fun r u t H1 locs1 ht hvm hw hB hz1 hk1 hS => ?_)
  have hw9 : r = 0 := hw
  rw [hw9]
  obtain ⟨hP, hD, hK⟩ := pst_join (wc := [(mo, .inr (21, [.ref s0, .int 0])), (s0, .inr (20, [.ref l0, .ref l1, .ref l2, .ref l3, .ref l4, .ref l5, .ref l6, .ref l7, .ref l8, .int 10, .int 100, .int 50, .int 0, .int 0])), (l3, .inr (5, [.int 0, .ref (E 0), .int 0])), (l4, .inr (5, [.int 0, .ref (E 0), .int 0]))]) (wr := []) (w1 := [(mo, .inr (21, [.ref s0, .int 2]))]) (tr := []) (t1 := []) hP hD hK [0, 1, 2, 3] [] [] rfl rfl rfl (by decide) (by decide) hk1 hFc ht hvm hB
  generalize H1 = H at hP hS ⊢
  have hP : va_P (dC, dI) vwCl [(mo, .inr (21, [.ref s0, .int 2]))] H := hP
  have hD : va_D (fun q : Nat => s.heap.size ≤ q) [(mo, .inr (21, [.ref s0, .int 2]))] := hD
  have hK : va_K (dC, dI) vwCl [] s := hK
  refine W.widen (k := 77) (n := 1487) (Nat.le_of_ble_eq_true rfl) (Nat.le_of_ble_eq_true rfl) ?_
  refine lv_istore (lv' := [(7, .int 0), (6, .int 2), (0, .ref b), (1, .ref x), (2, .ref mo), (3, .ref oA), (4, .ref oD), (5, .int 0)]) hx hb dL_law_939 hl (by decide) rfl (fun ls hl => ?_)
  refine lv_aload_n hx hb dL_law_941 rfl (lv_at hl 4 rfl) ?_
  have hPc := hP.sub (ws' := [(mo, .inr (21, [.ref s0, .int 2]))]) [0] rfl
  have hDc := hD.sub (ws' := [(mo, .inr (21, [.ref s0, .int 2]))]) [0] (by decide) rfl
  have hKc := hK.sub (tys' := []) [] rfl
  have hFc := va_free (wc := [(mo, .inr (21, [.ref s0, .int 2]))]) hD hS hA [0] rfl
  refine va_calli (va_runV (As := []) (rest := []) ⟨hx, hb, hml, hown, htl⟩ (c_rm_thrown l dC dI E mo s0 2 H.size) (cwV 0 htl gL_law_X15_thrown rfl rfl rfl (by decide +kernel) ⟨(Nat.le_of_ble_eq_true rfl), (Nat.le_of_ble_eq_true rfl)⟩) ⟨pre_blind, va_recv hKc hPc (ci := 21) (q0 := 0) rfl rfl, pre_call hPc hDc hKc hFc hE hZ hS⟩ rfl rfl hl.1 rfl (lv_room (Nat.le_of_ble_eq_true rfl)) dL_law_942 ⟨(Nat.le_of_ble_eq_true rfl), (Nat.le_of_ble_eq_true rfl)⟩) hS (fun q _ h => hFc q h) hFc (fun r u t H1 locs1 ht hvm hw hB hz1 hk1 hS => ?_)
  have hw9 : r = 2 := hw
  rw [hw9]
  obtain ⟨hP, hD, hK⟩ := pst_join (wc := [(mo, .inr (21, [.ref s0, .int 2]))]) (wr := []) (w1 := [(mo, .inr (21, [.ref s0, .int 2]))]) (tr := []) (t1 := []) hP hD hK [0] [] [] rfl rfl rfl (by decide) (by decide) hk1 hFc ht hvm hB
  generalize H1 = H at hP hS ⊢
  have hP : va_P (dC, dI) vwCl [(mo, .inr (21, [.ref s0, .int 2]))] H := hP
  have hD : va_D (fun q : Nat => s.heap.size ≤ q) [(mo, .inr (21, [.ref s0, .int 2]))] := hD
  have hK : va_K (dC, dI) vwCl [] s := hK
  refine W.widen (k := 77) (n := 1487) (Nat.le_of_ble_eq_true rfl) (Nat.le_of_ble_eq_true rfl) ?_
  refine lv_iload hx hb dL_law_945 (lv_at hl 1 rfl) ?_
  refine lv_icmp_eq (tgt := 952) hx hb dL_law_947 (by decide) (fun _ => ?_) (fun c9 => absurd (by decide) c9)
  refine lv_iload hx hb dL_law_952 (lv_at hl 1 rfl) ?_
  refine lv_if_ne (tgt := 969) hx hb dL_law_954 (by decide) (fun _ => ?_) (fun c9 => absurd c9 (by decide))
  refine lv_goto (tgt := 1756) hx hb dL_law_969 (by decide) ?_
  exact law_end C0 hS (lv_sub hl [2, 7] rfl) (Nat.le_of_ble_eq_true rfl) (Nat.le_of_ble_eq_true rfl)

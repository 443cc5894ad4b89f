set_option maxHeartbeats 8000000 in
set_option maxRecDepth 100000 in
theorem whole_start {p : Program} {e : Env} {s : State} {m : MethodId} {below : List Frame} {meth : Method} {c : Code} (l : Launch) (hflags : l.flags = flags0) {b L : Nat} {xs : Nat → Int32} (hL : L ≤ 5) (C0 : lw_At p s m meth c b L xs) : W p l e room_1 s m #[Value.ref b] below meth c s.heap [] 0 0 (lw_Z below #[Value.ref b] s) (entryFrame m ([Value.ref b] : List Value).toArray 9) := by
  obtain ⟨hx, hb, hr, hml, hown0, hts, hX, hbl, hlocks, hgv⟩ := id C0
  have hown : s.vm.findClass RL = some m.cls := hown0
  have htl : ∀ w ∈ wsL_law, w.before #[Value.ref b] s = true := fun w h => hts w (wsL_law_in w h)
  have hst : l.stackTraces = false := by
    unfold Launch.stackTraces
    rw [hflags]
    decide +kernel
  have hA : ∀ q : Nat, s.heap.size ≤ q → (fun q : Nat => s.heap.size ≤ q) q := fun _ h => h
  have hbA : ¬ (fun q : Nat => s.heap.size ≤ q) b := Nat.not_le.mpr hbl
  obtain ⟨dC, dI, hKc⟩ := known_all hts
  obtain ⟨E, hE, hZ⟩ := facts_all (A := fun q : Nat => s.heap.size ≤ q) hts hgv (fun a h => Nat.not_le.mpr h) (hKc 14 _ rfl).2.1
  have hS : va_S (fun q : Nat => s.heap.size ≤ q) s.heap s.heap [] := va_S.rf
  have hK : va_K (dC, dI) vwCl [] s := ⟨hKc, fun k q h => by simp at h⟩
  have hP : va_P (dC, dI) vwCl [] s.heap := fun k q h => by simp at h
  have hD : va_D (fun q : Nat => s.heap.size ≤ q) [] := ⟨fun i j p q h => by simp at h, fun k q h => by simp at h⟩
  have hl := lv_entry ([.ref b]) (n := 9) (Nat.le_of_ble_eq_true rfl)
  rw [lg_entry_eq]
  generalize (lg_sl ([.ref b]) ++ List.replicate (9 - (lg_sl ([.ref b])).length) Slot.unset).toArray = ls at hl ⊢
  have hl : lv_has ls 9 [(0, .ref b)] := hl
  refine va_new (ci := 14) (fs := [.null, .null]) (C := RX8) (T := TX8) (N := 2) hx hb htl (fun w h => inlX8 w h) tyX8 tyX8_ok hown (htl (.classLink RL 8 RX8) (by decide +kernel)) (htl (.instantiable RX8 2) (by decide +kernel)) (htl (.initialized RX8) (by decide +kernel)) hK hP hD hS hA rfl (fun j hj => by rcases (show j = 0 ∨ j = 1 by omega) with rfl | rfl <;> rfl) (Nat.le_of_ble_eq_true rfl) (Nat.le_of_ble_eq_true rfl) dL_law_0 (fun q_1 H hP hD hS => ?_)
  have hP : va_P (dC, dI) vwCl [(q_1, .inr (14, [.null, .null]))] H := hP
  have hD : va_D (fun q : Nat => s.heap.size ≤ q) [(q_1, .inr (14, [.null, .null]))] := hD
  refine W.widen (k := 1) (n := 2) (Nat.le_of_ble_eq_true rfl) (Nat.le_of_ble_eq_true rfl) ?_
  refine lv_dup hx hb dL_law_3 rfl ?_
  have hPc := hP.sub (ws' := [(q_1, .inr (14, [.null, .null]))]) [0] rfl
  have hDc := hD.sub (ws' := [(q_1, .inr (14, [.null, .null]))]) [0] (by decide) rfl
  have hKc := hK.sub (tys' := []) [] rfl
  have hFc := va_free (wc := [(q_1, .inr (14, [.null, .null]))]) hD hS hA [0] rfl
  refine va_callv (va_runI (As := []) (rest := [.ref q_1]) ⟨hx, hb, hml, hown, htl⟩ (c_X8_init l dC dI E q_1 H.size) (cwI 0 htl gL_law_X8_init rfl rfl rfl (htl (.initialized RX8) (by decide +kernel)) (htl (.methodLink RL 95 yX8_init) (by decide +kernel)) (htl (.instanceMethod yX8_init) (by decide +kernel)) rfl (by decide +kernel) ⟨(Nat.le_of_ble_eq_true rfl), (Nat.le_of_ble_eq_true rfl)⟩) ⟨pre_blind, pre_call hPc hDc hKc hFc hE hZ hS⟩ rfl rfl hl.1 rfl (lv_room (Nat.le_of_ble_eq_true rfl)) dL_law_4 ⟨(Nat.le_of_ble_eq_true rfl), (Nat.le_of_ble_eq_true rfl)⟩) hS (fun q _ h => hFc q h) hFc (fun u t H1 locs1 ht hvm hw hB hz1 hk1 hS => ?_)
  obtain ⟨now_2, fc_3, ro_4, hto_5, de_6, cr_7, co_8, sh_9, eo_10, a0_11, a1_12, a2_13, g0_14, g1_15, g2_16, v0_17, v1_18, v2_19, w0_20, w1_21, w2_22, w3_23, k0_24, k1_25, k2_26, k3_27, p0_28, p1_29, p2_30, p3_31, p4_32, r0_33, cR_34, cS0_35, cS2_36, cS3_37, hB⟩ := hB
  obtain ⟨hP, hD, hK⟩ := pst_join (wc := [(q_1, .inr (14, [.null, .null]))]) (wr := []) (w1 := [(q_1, .inr (14, [.ref now_2, .ref fc_3])), (now_2, .inr (13, [.ref ro_4, .ref hto_5, .ref de_6, .ref cr_7, .ref co_8, .ref sh_9, .ref eo_10, .int 0, .int 0, .int 10, .int 100, .int 50, .int 0, .int 50])), (ro_4, .inr (11, [.ref a0_11, .ref a1_12, .ref a2_13, .int 0, .int 0])), (hto_5, .inr (10, [.ref g0_14, .ref g1_15, .ref g2_16, .int 0])), (de_6, .inr (8, [.ref v0_17, .ref v1_18, .ref v2_19, .int 0, .int (-1)])), (cr_7, .inr (7, [.ref w0_20, .ref w1_21, .ref w2_22, .ref w3_23, .int 0, .int 0])), (co_8, .inr (6, [.ref k0_24, .ref k1_25, .ref k2_26, .ref k3_27, .int 0])), (sh_9, .inr (12, [.ref p0_28, .ref p1_29, .ref p2_30, .ref p3_31, .ref p4_32, .int 0])), (eo_10, .inr (9, [.ref r0_33, .int 0])), (a0_11, .inl (cR_34, 6, .inl (fun _ => 0))), (p0_28, .inl (cS0_35, 4, .inl (fun _ => 0))), (p2_30, .inl (cS2_36, 4, .inl (fun _ => 0))), (p3_31, .inl (cS3_37, 4, .inl (fun _ => 0)))]) (tr := []) (t1 := [(cR_34, .int), (cS0_35, .int), (cS2_36, .int), (cS3_37, .int)]) hP hD hK [0] [] [] rfl rfl rfl (by decide) (by decide) hk1 hFc ht hvm hB
  generalize H1 = H at hP hS ⊢
  have hP : va_P (dC, dI) vwCl [(q_1, .inr (14, [.ref now_2, .ref fc_3])), (now_2, .inr (13, [.ref ro_4, .ref hto_5, .ref de_6, .ref cr_7, .ref co_8, .ref sh_9, .ref eo_10, .int 0, .int 0, .int 10, .int 100, .int 50, .int 0, .int 50])), (ro_4, .inr (11, [.ref a0_11, .ref a1_12, .ref a2_13, .int 0, .int 0])), (hto_5, .inr (10, [.ref g0_14, .ref g1_15, .ref g2_16, .int 0])), (de_6, .inr (8, [.ref v0_17, .ref v1_18, .ref v2_19, .int 0, .int (-1)])), (cr_7, .inr (7, [.ref w0_20, .ref w1_21, .ref w2_22, .ref w3_23, .int 0, .int 0])), (co_8, .inr (6, [.ref k0_24, .ref k1_25, .ref k2_26, .ref k3_27, .int 0])), (sh_9, .inr (12, [.ref p0_28, .ref p1_29, .ref p2_30, .ref p3_31, .ref p4_32, .int 0])), (eo_10, .inr (9, [.ref r0_33, .int 0])), (a0_11, .inl (cR_34, 6, .inl (fun _ => 0))), (p0_28, .inl (cS0_35, 4, .inl (fun _ => 0))), (p2_30, .inl (cS2_36, 4, .inl (fun _ => 0))), (p3_31, .inl (cS3_37, 4, .inl (fun _ => 0)))] H := hP
  have hD : va_D (fun q : Nat => s.heap.size ≤ q) [(q_1, .inr (14, [.ref now_2, .ref fc_3])), (now_2, .inr (13, [.ref ro_4, .ref hto_5, .ref de_6, .ref cr_7, .ref co_8, .ref sh_9, .ref eo_10, .int 0, .int 0, .int 10, .int 100, .int 50, .int 0, .int 50])), (ro_4, .inr (11, [.ref a0_11, .ref a1_12, .ref a2_13, .int 0, .int 0])), (hto_5, .inr (10, [.ref g0_14, .ref g1_15, .ref g2_16, .int 0])), (de_6, .inr (8, [.ref v0_17, .ref v1_18, .ref v2_19, .int 0, .int (-1)])), (cr_7, .inr (7, [.ref w0_20, .ref w1_21, .ref w2_22, .ref w3_23, .int 0, .int 0])), (co_8, .inr (6, [.ref k0_24, .ref k1_25, .ref k2_26, .ref k3_27, .int 0])), (sh_9, .inr (12, [.ref p0_28, .ref p1_29, .ref p2_30, .ref p3_31, .ref p4_32, .int 0])), (eo_10, .inr (9, [.ref r0_33, .int 0])), (a0_11, .inl (cR_34, 6, .inl (fun _ => 0))), (p0_28, .inl (cS0_35, 4, .inl (fun _ => 0))), (p2_30, .inl (cS2_36, 4, .inl (fun _ => 0))), (p3_31, .inl (cS3_37, 4, .inl (fun _ => 0)))] := hD
  have hK : va_K (dC, dI) vwCl [(cR_34, .int), (cS0_35, .int), (cS2_36, .int), (cS3_37, .int)] s := hK
  refine W.widen (k := 63) (n := 1436) (Nat.le_of_ble_eq_true rfl) (Nat.le_of_ble_eq_true rfl) ?_
  refine lv_astore_n (lv' := [(1, .ref q_1), (0, .ref b)]) hx hb dL_law_7 rfl hl (by decide) rfl (fun ls hl => ?_)
  refine va_new (ci := 21) (fs := [.null, .int 0]) (C := RX15) (T := TX15) (N := 2) hx hb htl (fun w h => inlX15 w h) tyX15 tyX15_ok hown (htl (.classLink RL 96 RX15) (by decide +kernel)) (htl (.instantiable RX15 2) (by decide +kernel)) (htl (.initialized RX15) (by decide +kernel)) hK hP hD hS hA rfl (fun j hj => by rcases (show j = 0 ∨ j = 1 by omega) with rfl | rfl <;> rfl) (Nat.le_of_ble_eq_true rfl) (Nat.le_of_ble_eq_true rfl) dL_law_8 (fun q_39 H hP hD hS => ?_)
  have hP : va_P (dC, dI) vwCl [(q_1, .inr (14, [.ref now_2, .ref fc_3])), (now_2, .inr (13, [.ref ro_4, .ref hto_5, .ref de_6, .ref cr_7, .ref co_8, .ref sh_9, .ref eo_10, .int 0, .int 0, .int 10, .int 100, .int 50, .int 0, .int 50])), (ro_4, .inr (11, [.ref a0_11, .ref a1_12, .ref a2_13, .int 0, .int 0])), (hto_5, .inr (10, [.ref g0_14, .ref g1_15, .ref g2_16, .int 0])), (de_6, .inr (8, [.ref v0_17, .ref v1_18, .ref v2_19, .int 0, .int (-1)])), (cr_7, .inr (7, [.ref w0_20, .ref w1_21, .ref w2_22, .ref w3_23, .int 0, .int 0])), (co_8, .inr (6, [.ref k0_24, .ref k1_25, .ref k2_26, .ref k3_27, .int 0])), (sh_9, .inr (12, [.ref p0_28, .ref p1_29, .ref p2_30, .ref p3_31, .ref p4_32, .int 0])), (eo_10, .inr (9, [.ref r0_33, .int 0])), (a0_11, .inl (cR_34, 6, .inl (fun _ => 0))), (p0_28, .inl (cS0_35, 4, .inl (fun _ => 0))), (p2_30, .inl (cS2_36, 4, .inl (fun _ => 0))), (p3_31, .inl (cS3_37, 4, .inl (fun _ => 0))), (q_39, .inr (21, [.null, .int 0]))] H := hP
  have hD : va_D (fun q : Nat => s.heap.size ≤ q) [(q_1, .inr (14, [.ref now_2, .ref fc_3])), (now_2, .inr (13, [.ref ro_4, .ref hto_5, .ref de_6, .ref cr_7, .ref co_8, .ref sh_9, .ref eo_10, .int 0, .int 0, .int 10, .int 100, .int 50, .int 0, .int 50])), (ro_4, .inr (11, [.ref a0_11, .ref a1_12, .ref a2_13, .int 0, .int 0])), (hto_5, .inr (10, [.ref g0_14, .ref g1_15, .ref g2_16, .int 0])), (de_6, .inr (8, [.ref v0_17, .ref v1_18, .ref v2_19, .int 0, .int (-1)])), (cr_7, .inr (7, [.ref w0_20, .ref w1_21, .ref w2_22, .ref w3_23, .int 0, .int 0])), (co_8, .inr (6, [.ref k0_24, .ref k1_25, .ref k2_26, .ref k3_27, .int 0])), (sh_9, .inr (12, [.ref p0_28, .ref p1_29, .ref p2_30, .ref p3_31, .ref p4_32, .int 0])), (eo_10, .inr (9, [.ref r0_33, .int 0])), (a0_11, .inl (cR_34, 6, .inl (fun _ => 0))), (p0_28, .inl (cS0_35, 4, .inl (fun _ => 0))), (p2_30, .inl (cS2_36, 4, .inl (fun _ => 0))), (p3_31, .inl (cS3_37, 4, .inl (fun _ => 0))), (q_39, .inr (21, [.null, .int 0]))] := hD
  refine W.widen (k := 64) (n := 1438) (Nat.le_of_ble_eq_true rfl) (Nat.le_of_ble_eq_true rfl) ?_
  refine lv_dup hx hb dL_law_11 rfl ?_
  have hPc := hP.sub (ws' := [(q_39, .inr (21, [.null, .int 0]))]) [13] rfl
  have hDc := hD.sub (ws' := [(q_39, .inr (21, [.null, .int 0]))]) [13] (by decide) rfl
  have hKc := hK.sub (tys' := []) [] rfl
  have hFc := va_free (wc := [(q_39, .inr (21, [.null, .int 0]))]) hD hS hA [13] rfl
  refine va_callv (va_runI (As := []) (rest := [.ref q_39]) ⟨hx, hb, hml, hown, htl⟩ (c_rm_init l dC dI E q_39 H.size) (cwI 0 htl gL_law_X15_init rfl rfl rfl (htl (.initialized RX15) (by decide +kernel)) (htl (.methodLink RL 98 yX15_init) (by decide +kernel)) (htl (.instanceMethod yX15_init) (by decide +kernel)) rfl (by decide +kernel) ⟨(Nat.le_of_ble_eq_true rfl), (Nat.le_of_ble_eq_true rfl)⟩) ⟨pre_blind, pre_call hPc hDc hKc hFc hE hZ hS⟩ rfl rfl hl.1 rfl (lv_room (Nat.le_of_ble_eq_true rfl)) dL_law_12 ⟨(Nat.le_of_ble_eq_true rfl), (Nat.le_of_ble_eq_true rfl)⟩) hS (fun q _ h => hFc q h) hFc (fun u t H1 locs1 ht hvm hw hB hz1 hk1 hS => ?_)
  obtain ⟨s0_40, l0_41, l1_42, l2_43, l3_44, l4_45, l5_46, l6_47, l7_48, l8_49, hB⟩ := hB
  obtain ⟨hP, hD, hK⟩ := pst_join (wc := [(q_39, .inr (21, [.null, .int 0]))]) (wr := [(q_1, .inr (14, [.ref now_2, .ref fc_3])), (now_2, .inr (13, [.ref ro_4, .ref hto_5, .ref de_6, .ref cr_7, .ref co_8, .ref sh_9, .ref eo_10, .int 0, .int 0, .int 10, .int 100, .int 50, .int 0, .int 50])), (ro_4, .inr (11, [.ref a0_11, .ref a1_12, .ref a2_13, .int 0, .int 0])), (hto_5, .inr (10, [.ref g0_14, .ref g1_15, .ref g2_16, .int 0])), (de_6, .inr (8, [.ref v0_17, .ref v1_18, .ref v2_19, .int 0, .int (-1)])), (cr_7, .inr (7, [.ref w0_20, .ref w1_21, .ref w2_22, .ref w3_23, .int 0, .int 0])), (co_8, .inr (6, [.ref k0_24, .ref k1_25, .ref k2_26, .ref k3_27, .int 0])), (sh_9, .inr (12, [.ref p0_28, .ref p1_29, .ref p2_30, .ref p3_31, .ref p4_32, .int 0])), (eo_10, .inr (9, [.ref r0_33, .int 0])), (a0_11, .inl (cR_34, 6, .inl (fun _ => 0))), (p0_28, .inl (cS0_35, 4, .inl (fun _ => 0))), (p2_30, .inl (cS2_36, 4, .inl (fun _ => 0))), (p3_31, .inl (cS3_37, 4, .inl (fun _ => 0)))]) (w1 := [(q_39, .inr (21, [.ref s0_40, .int 0])), (s0_40, .inr (20, [.ref l0_41, .ref l1_42, .ref l2_43, .ref l3_44, .ref l4_45, .ref l5_46, .ref l6_47, .ref l7_48, .ref l8_49, .int 10, .int 100, .int 50, .int 0, .int 0])), (l0_41, .inr (5, [.int 0, .ref (E 0), .int 0])), (l1_42, .inr (5, [.int 0, .ref (E 0), .int 0])), (l2_43, .inr (5, [.int 0, .ref (E 0), .int 0])), (l3_44, .inr (5, [.int 0, .ref (E 0), .int 0])), (l4_45, .inr (5, [.int 0, .ref (E 0), .int 0])), (l5_46, .inr (5, [.int 0, .ref (E 0), .int 0])), (l6_47, .inr (5, [.int 0, .ref (E 0), .int 0])), (l7_48, .inr (5, [.int 0, .ref (E 0), .int 0])), (l8_49, .inr (5, [.int 0, .ref (E 0), .int 0]))]) (tr := [(cR_34, .int), (cS0_35, .int), (cS2_36, .int), (cS3_37, .int)]) (t1 := []) hP hD hK [13] [0, 1, 2, 3, 4, 5, 6, 7, 8, 9, 10, 11, 12] [0, 1, 2, 3] rfl rfl rfl (by decide) (by decide) hk1 hFc ht hvm hB
  generalize H1 = H at hP hS ⊢
  have hP : va_P (dC, dI) vwCl [(q_1, .inr (14, [.ref now_2, .ref fc_3])), (now_2, .inr (13, [.ref ro_4, .ref hto_5, .ref de_6, .ref cr_7, .ref co_8, .ref sh_9, .ref eo_10, .int 0, .int 0, .int 10, .int 100, .int 50, .int 0, .int 50])), (ro_4, .inr (11, [.ref a0_11, .ref a1_12, .ref a2_13, .int 0, .int 0])), (hto_5, .inr (10, [.ref g0_14, .ref g1_15, .ref g2_16, .int 0])), (de_6, .inr (8, [.ref v0_17, .ref v1_18, .ref v2_19, .int 0, .int (-1)])), (cr_7, .inr (7, [.ref w0_20, .ref w1_21, .ref w2_22, .ref w3_23, .int 0, .int 0])), (co_8, .inr (6, [.ref k0_24, .ref k1_25, .ref k2_26, .ref k3_27, .int 0])), (sh_9, .inr (12, [.ref p0_28, .ref p1_29, .ref p2_30, .ref p3_31, .ref p4_32, .int 0])), (eo_10, .inr (9, [.ref r0_33, .int 0])), (a0_11, .inl (cR_34, 6, .inl (fun _ => 0))), (p0_28, .inl (cS0_35, 4, .inl (fun _ => 0))), (p2_30, .inl (cS2_36, 4, .inl (fun _ => 0))), (p3_31, .inl (cS3_37, 4, .inl (fun _ => 0))), (q_39, .inr (21, [.ref s0_40, .int 0])), (s0_40, .inr (20, [.ref l0_41, .ref l1_42, .ref l2_43, .ref l3_44, .ref l4_45, .ref l5_46, .ref l6_47, .ref l7_48, .ref l8_49, .int 10, .int 100, .int 50, .int 0, .int 0])), (l0_41, .inr (5, [.int 0, .ref (E 0), .int 0])), (l1_42, .inr (5, [.int 0, .ref (E 0), .int 0])), (l2_43, .inr (5, [.int 0, .ref (E 0), .int 0])), (l3_44, .inr (5, [.int 0, .ref (E 0), .int 0])), (l4_45, .inr (5, [.int 0, .ref (E 0), .int 0])), (l5_46, .inr (5, [.int 0, .ref (E 0), .int 0])), (l6_47, .inr (5, [.int 0, .ref (E 0), .int 0])), (l7_48, .inr (5, [.int 0, .ref (E 0), .int 0])), (l8_49, .inr (5, [.int 0, .ref (E 0), .int 0]))] H := hP
  have hD : va_D (fun q : Nat => s.heap.size ≤ q) [(q_1, .inr (14, [.ref now_2, .ref fc_3])), (now_2, .inr (13, [.ref ro_4, .ref hto_5, .ref de_6, .ref cr_7, .ref co_8, .ref sh_9, .ref eo_10, .int 0, .int 0, .int 10, .int 100, .int 50, .int 0, .int 50])), (ro_4, .inr (11, [.ref a0_11, .ref a1_12, .ref a2_13, .int 0, .int 0])), (hto_5, .inr (10, [.ref g0_14, .ref g1_15, .ref g2_16, .int 0])), (de_6, .inr (8, [.ref v0_17, .ref v1_18, .ref v2_19, .int 0, .int (-1)])), (cr_7, .inr (7, [.ref w0_20, .ref w1_21, .ref w2_22, .ref w3_23, .int 0, .int 0])), (co_8, .inr (6, [.ref k0_24, .ref k1_25, .ref k2_26, .ref k3_27, .int 0])), (sh_9, .inr (12, [.ref p0_28, .ref p1_29, .ref p2_30, .ref p3_31, .ref p4_32, .int 0])), (eo_10, .inr (9, [.ref r0_33, .int 0])), (a0_11, .inl (cR_34, 6, .inl (fun _ => 0))), (p0_28, .inl (cS0_35, 4, .inl (fun _ => 0))), (p2_30, .inl (cS2_36, 4, .inl (fun _ => 0))), (p3_31, .inl (cS3_37, 4, .inl (fun _ => 0))), (q_39, .inr (21, [.ref s0_40, .int 0])), (s0_40, .inr (20, [.ref l0_41, .ref l1_42, .ref l2_43, .ref l3_44, .ref l4_45, .ref l5_46, .ref l6_47, .ref l7_48, .ref l8_49, .int 10, .int 100, .int 50, .int 0, .int 0])), (l0_41, .inr (5, [.int 0, .ref (E 0), .int 0])), (l1_42, .inr (5, [.int 0, .ref (E 0), .int 0])), (l2_43, .inr (5, [.int 0, .ref (E 0), .int 0])), (l3_44, .inr (5, [.int 0, .ref (E 0), .int 0])), (l4_45, .inr (5, [.int 0, .ref (E 0), .int 0])), (l5_46, .inr (5, [.int 0, .ref (E 0), .int 0])), (l6_47, .inr (5, [.int 0, .ref (E 0), .int 0])), (l7_48, .inr (5, [.int 0, .ref (E 0), .int 0])), (l8_49, .inr (5, [.int 0, .ref (E 0), .int 0]))] := hD
  have hK : va_K (dC, dI) vwCl [(cR_34, .int), (cS0_35, .int), (cS2_36, .int), (cS3_37, .int)] s := hK
  refine W.widen (k := 74) (n := 1479) (Nat.le_of_ble_eq_true rfl) (Nat.le_of_ble_eq_true rfl) ?_
  refine lv_astore_n (lv' := [(2, .ref q_39), (1, .ref q_1), (0, .ref b)]) hx hb dL_law_15 rfl hl (by decide) rfl (fun ls hl => ?_)
  refine lv_iconst (v := 1) hx hb dL_law_16 (by decide) ?_
  refine va_newa (atype := .long) (ty := .long) (N' := 1) (a0 := (1, .inr (.inl (fun _ => 0)))) hx hb (htl (.arrayClass .long) (by decide +kernel)) rfl hK hP hD hS hA (fun _ => rfl) (by decide) (by decide) (Nat.le_of_ble_eq_true rfl) (Nat.le_of_ble_eq_true rfl) (Nat.le_of_ble_eq_true rfl) dL_law_17 (fun q_51 cA_52 H hK hP hD hS => ?_)
  have hP : va_P (dC, dI) vwCl [(q_1, .inr (14, [.ref now_2, .ref fc_3])), (now_2, .inr (13, [.ref ro_4, .ref hto_5, .ref de_6, .ref cr_7, .ref co_8, .ref sh_9, .ref eo_10, .int 0, .int 0, .int 10, .int 100, .int 50, .int 0, .int 50])), (ro_4, .inr (11, [.ref a0_11, .ref a1_12, .ref a2_13, .int 0, .int 0])), (hto_5, .inr (10, [.ref g0_14, .ref g1_15, .ref g2_16, .int 0])), (de_6, .inr (8, [.ref v0_17, .ref v1_18, .ref v2_19, .int 0, .int (-1)])), (cr_7, .inr (7, [.ref w0_20, .ref w1_21, .ref w2_22, .ref w3_23, .int 0, .int 0])), (co_8, .inr (6, [.ref k0_24, .ref k1_25, .ref k2_26, .ref k3_27, .int 0])), (sh_9, .inr (12, [.ref p0_28, .ref p1_29, .ref p2_30, .ref p3_31, .ref p4_32, .int 0])), (eo_10, .inr (9, [.ref r0_33, .int 0])), (a0_11, .inl (cR_34, 6, .inl (fun _ => 0))), (p0_28, .inl (cS0_35, 4, .inl (fun _ => 0))), (p2_30, .inl (cS2_36, 4, .inl (fun _ => 0))), (p3_31, .inl (cS3_37, 4, .inl (fun _ => 0))), (q_39, .inr (21, [.ref s0_40, .int 0])), (s0_40, .inr (20, [.ref l0_41, .ref l1_42, .ref l2_43, .ref l3_44, .ref l4_45, .ref l5_46, .ref l6_47, .ref l7_48, .ref l8_49, .int 10, .int 100, .int 50, .int 0, .int 0])), (l0_41, .inr (5, [.int 0, .ref (E 0), .int 0])), (l1_42, .inr (5, [.int 0, .ref (E 0), .int 0])), (l2_43, .inr (5, [.int 0, .ref (E 0), .int 0])), (l3_44, .inr (5, [.int 0, .ref (E 0), .int 0])), (l4_45, .inr (5, [.int 0, .ref (E 0), .int 0])), (l5_46, .inr (5, [.int 0, .ref (E 0), .int 0])), (l6_47, .inr (5, [.int 0, .ref (E 0), .int 0])), (l7_48, .inr (5, [.int 0, .ref (E 0), .int 0])), (l8_49, .inr (5, [.int 0, .ref (E 0), .int 0])), (q_51, .inl (cA_52, 1, .inr (.inl (fun _ => 0))))] H := hP
  have hD : va_D (fun q : Nat => s.heap.size ≤ q) [(q_1, .inr (14, [.ref now_2, .ref fc_3])), (now_2, .inr (13, [.ref ro_4, .ref hto_5, .ref de_6, .ref cr_7, .ref co_8, .ref sh_9, .ref eo_10, .int 0, .int 0, .int 10, .int 100, .int 50, .int 0, .int 50])), (ro_4, .inr (11, [.ref a0_11, .ref a1_12, .ref a2_13, .int 0, .int 0])), (hto_5, .inr (10, [.ref g0_14, .ref g1_15, .ref g2_16, .int 0])), (de_6, .inr (8, [.ref v0_17, .ref v1_18, .ref v2_19, .int 0, .int (-1)])), (cr_7, .inr (7, [.ref w0_20, .ref w1_21, .ref w2_22, .ref w3_23, .int 0, .int 0])), (co_8, .inr (6, [.ref k0_24, .ref k1_25, .ref k2_26, .ref k3_27, .int 0])), (sh_9, .inr (12, [.ref p0_28, .ref p1_29, .ref p2_30, .ref p3_31, .ref p4_32, .int 0])), (eo_10, .inr (9, [.ref r0_33, .int 0])), (a0_11, .inl (cR_34, 6, .inl (fun _ => 0))), (p0_28, .inl (cS0_35, 4, .inl (fun _ => 0))), (p2_30, .inl (cS2_36, 4, .inl (fun _ => 0))), (p3_31, .inl (cS3_37, 4, .inl (fun _ => 0))), (q_39, .inr (21, [.ref s0_40, .int 0])), (s0_40, .inr (20, [.ref l0_41, .ref l1_42, .ref l2_43, .ref l3_44, .ref l4_45, .ref l5_46, .ref l6_47, .ref l7_48, .ref l8_49, .int 10, .int 100, .int 50, .int 0, .int 0])), (l0_41, .inr (5, [.int 0, .ref (E 0), .int 0])), (l1_42, .inr (5, [.int 0, .ref (E 0), .int 0])), (l2_43, .inr (5, [.int 0, .ref (E 0), .int 0])), (l3_44, .inr (5, [.int 0, .ref (E 0), .int 0])), (l4_45, .inr (5, [.int 0, .ref (E 0), .int 0])), (l5_46, .inr (5, [.int 0, .ref (E 0), .int 0])), (l6_47, .inr (5, [.int 0, .ref (E 0), .int 0])), (l7_48, .inr (5, [.int 0, .ref (E 0), .int 0])), (l8_49, .inr (5, [.int 0, .ref (E 0), .int 0])), (q_51, .inl (cA_52, 1, .inr (.inl (fun _ => 0))))] := hD
  have hK : va_K (dC, dI) vwCl [(cR_34, .int), (cS0_35, .int), (cS2_36, .int), (cS3_37, .int), (cA_52, .long)] s := hK
  refine W.widen (k := 75) (n := 1480) (Nat.le_of_ble_eq_true rfl) (Nat.le_of_ble_eq_true rfl) ?_
  refine lv_astore_n (lv' := [(3, .ref q_51), (2, .ref q_39), (1, .ref q_1), (0, .ref b)]) hx hb dL_law_19 rfl hl (by decide) rfl (fun ls hl => ?_)
  refine lv_iconst (v := 1) hx hb dL_law_20 (by decide) ?_
  refine va_newa (atype := .double) (ty := .double) (N' := 1) (a0 := (1, .inr (.inr (.inr (.inl (fun _ => 0)))))) hx hb (htl (.arrayClass .double) (by decide +kernel)) rfl hK hP hD hS hA (fun _ => rfl) (by decide) (by decide) (Nat.le_of_ble_eq_true rfl) (Nat.le_of_ble_eq_true rfl) (Nat.le_of_ble_eq_true rfl) dL_law_21 (fun q_53 cA_54 H hK hP hD hS => ?_)
  have hP : va_P (dC, dI) vwCl [(q_1, .inr (14, [.ref now_2, .ref fc_3])), (now_2, .inr (13, [.ref ro_4, .ref hto_5, .ref de_6, .ref cr_7, .ref co_8, .ref sh_9, .ref eo_10, .int 0, .int 0, .int 10, .int 100, .int 50, .int 0, .int 50])), (ro_4, .inr (11, [.ref a0_11, .ref a1_12, .ref a2_13, .int 0, .int 0])), (hto_5, .inr (10, [.ref g0_14, .ref g1_15, .ref g2_16, .int 0])), (de_6, .inr (8, [.ref v0_17, .ref v1_18, .ref v2_19, .int 0, .int (-1)])), (cr_7, .inr (7, [.ref w0_20, .ref w1_21, .ref w2_22, .ref w3_23, .int 0, .int 0])), (co_8, .inr (6, [.ref k0_24, .ref k1_25, .ref k2_26, .ref k3_27, .int 0])), (sh_9, .inr (12, [.ref p0_28, .ref p1_29, .ref p2_30, .ref p3_31, .ref p4_32, .int 0])), (eo_10, .inr (9, [.ref r0_33, .int 0])), (a0_11, .inl (cR_34, 6, .inl (fun _ => 0))), (p0_28, .inl (cS0_35, 4, .inl (fun _ => 0))), (p2_30, .inl (cS2_36, 4, .inl (fun _ => 0))), (p3_31, .inl (cS3_37, 4, .inl (fun _ => 0))), (q_39, .inr (21, [.ref s0_40, .int 0])), (s0_40, .inr (20, [.ref l0_41, .ref l1_42, .ref l2_43, .ref l3_44, .ref l4_45, .ref l5_46, .ref l6_47, .ref l7_48, .ref l8_49, .int 10, .int 100, .int 50, .int 0, .int 0])), (l0_41, .inr (5, [.int 0, .ref (E 0), .int 0])), (l1_42, .inr (5, [.int 0, .ref (E 0), .int 0])), (l2_43, .inr (5, [.int 0, .ref (E 0), .int 0])), (l3_44, .inr (5, [.int 0, .ref (E 0), .int 0])), (l4_45, .inr (5, [.int 0, .ref (E 0), .int 0])), (l5_46, .inr (5, [.int 0, .ref (E 0), .int 0])), (l6_47, .inr (5, [.int 0, .ref (E 0), .int 0])), (l7_48, .inr (5, [.int 0, .ref (E 0), .int 0])), (l8_49, .inr (5, [.int 0, .ref (E 0), .int 0])), (q_51, .inl (cA_52, 1, .inr (.inl (fun _ => 0)))), (q_53, .inl (cA_54, 1, .inr (.inr (.inr (.inl (fun _ => 0))))))] H := hP
  have hD : va_D (fun q : Nat => s.heap.size ≤ q) [(q_1, .inr (14, [.ref now_2, .ref fc_3])), (now_2, .inr (13, [.ref ro_4, .ref hto_5, .ref de_6, .ref cr_7, .ref co_8, .ref sh_9, .ref eo_10, .int 0, .int 0, .int 10, .int 100, .int 50, .int 0, .int 50])), (ro_4, .inr (11, [.ref a0_11, .ref a1_12, .ref a2_13, .int 0, .int 0])), (hto_5, .inr (10, [.ref g0_14, .ref g1_15, .ref g2_16, .int 0])), (de_6, .inr (8, [.ref v0_17, .ref v1_18, .ref v2_19, .int 0, .int (-1)])), (cr_7, .inr (7, [.ref w0_20, .ref w1_21, .ref w2_22, .ref w3_23, .int 0, .int 0])), (co_8, .inr (6, [.ref k0_24, .ref k1_25, .ref k2_26, .ref k3_27, .int 0])), (sh_9, .inr (12, [.ref p0_28, .ref p1_29, .ref p2_30, .ref p3_31, .ref p4_32, .int 0])), (eo_10, .inr (9, [.ref r0_33, .int 0])), (a0_11, .inl (cR_34, 6, .inl (fun _ => 0))), (p0_28, .inl (cS0_35, 4, .inl (fun _ => 0))), (p2_30, .inl (cS2_36, 4, .inl (fun _ => 0))), (p3_31, .inl (cS3_37, 4, .inl (fun _ => 0))), (q_39, .inr (21, [.ref s0_40, .int 0])), (s0_40, .inr (20, [.ref l0_41, .ref l1_42, .ref l2_43, .ref l3_44, .ref l4_45, .ref l5_46, .ref l6_47, .ref l7_48, .ref l8_49, .int 10, .int 100, .int 50, .int 0, .int 0])), (l0_41, .inr (5, [.int 0, .ref (E 0), .int 0])), (l1_42, .inr (5, [.int 0, .ref (E 0), .int 0])), (l2_43, .inr (5, [.int 0, .ref (E 0), .int 0])), (l3_44, .inr (5, [.int 0, .ref (E 0), .int 0])), (l4_45, .inr (5, [.int 0, .ref (E 0), .int 0])), (l5_46, .inr (5, [.int 0, .ref (E 0), .int 0])), (l6_47, .inr (5, [.int 0, .ref (E 0), .int 0])), (l7_48, .inr (5, [.int 0, .ref (E 0), .int 0])), (l8_49, .inr (5, [.int 0, .ref (E 0), .int 0])), (q_51, .inl (cA_52, 1, .inr (.inl (fun _ => 0)))), (q_53, .inl (cA_54, 1, .inr (.inr (.inr (.inl (fun _ => 0))))))] := hD
  have hK : va_K (dC, dI) vwCl [(cR_34, .int), (cS0_35, .int), (cS2_36, .int), (cS3_37, .int), (cA_52, .long), (cA_54, .double)] s := hK
  refine W.widen (k := 76) (n := 1481) (Nat.le_of_ble_eq_true rfl) (Nat.le_of_ble_eq_true rfl) ?_
  refine lv_astore (lv' := [(4, .ref q_53), (3, .ref q_51), (2, .ref q_39), (1, .ref q_1), (0, .ref b)]) hx hb dL_law_23 hl (by decide) rfl (fun ls hl => ?_)
  refine lv_iconst (v := 0) hx hb dL_law_25 (by decide) ?_
  refine lv_istore (lv' := [(5, .int 0), (4, .ref q_53), (3, .ref q_51), (2, .ref q_39), (1, .ref q_1), (0, .ref b)]) hx hb dL_law_26 hl (by decide) rfl (fun ls hl => ?_)
  refine lv_iload hx hb dL_law_28 (lv_at hl 0 rfl) ?_
  refine lv_aload_n hx hb dL_law_30 rfl (lv_at hl 5 rfl) ?_
  refine va_slen hx hb hX hbl hbA hS dL_law_31 ?_
  refine lv_iconst (v := 5) hx hb dL_law_32 (by decide) ?_
  refine lv_isub hx hb dL_law_33 ?_
  rcases Nat.lt_or_ge L 5 with hlt | hge
  · refine lv_icmp_gt (tgt := 1762) hx hb dL_law_34 (by decide) (fun _ => ?_) (fun c9 => absurd (by rcases (show L = 0 ∨ L = 1 ∨ L = 2 ∨ L = 3 ∨ L = 4 by omega) with rfl | rfl | rfl | rfl | rfl <;> decide) c9)
    exact law_out C0 hS (Nat.le_of_ble_eq_true rfl) (Nat.le_of_ble_eq_true rfl)
  obtain rfl : L = 5 := by omega
  refine lv_icmp_gt (tgt := 1762) hx hb dL_law_34 (by decide) (fun c9 => absurd c9 (by decide)) (fun _ => ?_)
  refine lv_aload_n hx hb dL_law_37 rfl (lv_at hl 5 rfl) ?_
  refine lv_iload hx hb dL_law_38 (lv_at hl 0 rfl) ?_
  refine va_sld hx hb hX hbl hbA hS (by unfold vp_in; decide) dL_law_40 ?_
  refine lv_bipush (v := 31) hx hb dL_law_41 (by decide) ?_
  refine lv_iand hx hb dL_law_43 ?_
  obtain ⟨sv1, hv1⟩ : ∃ y : Int32, y = xs (1 : Int32).toNatClampNeg := ⟨_, rfl⟩
  obtain ⟨sv2, hv2⟩ : ∃ y : Int32, y = xs (2 : Int32).toNatClampNeg := ⟨_, rfl⟩
  obtain ⟨sv3, hv3⟩ : ∃ y : Int32, y = xs (3 : Int32).toNatClampNeg := ⟨_, rfl⟩
  obtain ⟨sv4, hv4⟩ : ∃ y : Int32, y = xs (4 : Int32).toNatClampNeg := ⟨_, rfl⟩
  obtain ⟨sk1, hk1⟩ : ∃ y : Int32, y = (sv1.toUInt32 % 65536).toInt32 := ⟨_, rfl⟩
  obtain ⟨sk2, hk2⟩ : ∃ y : Int32, y = (sv2.toUInt32 % 65536).toInt32 := ⟨_, rfl⟩
  obtain ⟨j, hj, ej⟩ := pk_andE (xs (0 : Int32).toNatClampNeg) (m := 31) 5 (by decide)
  rw [ej]
  have hl : lv_has ls 9 [(0, .ref b), (1, .ref q_1), (2, .ref q_39), (3, .ref q_51), (4, .ref q_53), (5, .int 0)] := lv_sub hl [5, 4, 3, 2, 1, 0] rfl
  rcases (show j = 0 ∨ j = 1 ∨ j = 2 ∨ j = 3 ∨ j = 4 ∨ j = 5 ∨ j = 6 ∨ j = 7 ∨ j = 8 ∨ j = 9 ∨ j = 10 ∨ j = 11 ∨ j = 12 ∨ j = 13 ∨ j = 14 ∨ j = 15 ∨ j = 16 ∨ j = 17 ∨ j = 18 ∨ j = 19 ∨ j = 20 ∨ j = 21 ∨ j = 22 ∨ j = 23 ∨ j = 24 ∨ j = 25 ∨ j = 26 ∨ j = 27 ∨ j = 28 ∨ j = 29 ∨ j = 30 ∨ j = 31 by omega) with rfl | rfl | rfl | rfl | rfl | rfl | rfl | rfl | rfl | rfl | rfl | rfl | rfl | rfl | rfl | rfl | rfl | rfl | rfl | rfl | rfl | rfl | rfl | rfl | rfl | rfl | rfl | rfl | rfl | rfl | rfl | rfl
  · refine lv_tableIn (tgt := 184) hx hb dL_law_44 (by decide) (by decide) rfl (by decide) ?_
    by_cases hc : ¬ sv1 < 0 ∧ ¬ 200 < sv1
    · by_cases h7 : 127 < sv1
      · exact law_addRoom_ym hst C0 hE hZ hv1 hv2 hv3 hv4 hk1 hk2 (hK.sub [0, 4] rfl) (hP.sub [0, 1, 2, 9, 13, 14, 15, 16, 17, 24] rfl) (hD.sub [0, 1, 2, 9, 13, 14, 15, 16, 17, 24] (by decide) rfl) hS hl hc.1 hc.2 (not_low hc.1) h7
      · exact law_addRoom_yc hst C0 hE hZ hv1 hv2 hv3 hv4 hk1 hk2 (hK.sub [0, 4] rfl) (hP.sub [0, 1, 2, 9, 13, 14, 15, 16, 17, 24] rfl) (hD.sub [0, 1, 2, 9, 13, 14, 15, 16, 17, 24] (by decide) rfl) hS hl hc.1 hc.2 (not_low hc.1) h7
    · exact law_addRoom_n hst C0 hE hZ hv1 hv2 hv3 hv4 hk1 hk2 (hK.sub [] rfl) (hP.sub [0, 13, 14, 15, 16, 17] rfl) (hD.sub [0, 13, 14, 15, 16, 17] (by decide) rfl) hS hl hc
  · refine lv_tableIn (tgt := 240) hx hb dL_law_44 (by decide) (by decide) rfl (by decide) ?_
    exact law_addHatch hst C0 hE hZ hv1 hv2 hv3 hv4 hk1 hk2 (hK.sub [] rfl) (hP.sub [0, 1, 2, 13, 14, 15] rfl) (hD.sub [0, 1, 2, 13, 14, 15] (by decide) rfl) hS hl
  · refine lv_tableIn (tgt := 308) hx hb dL_law_44 (by decide) (by decide) rfl (by decide) ?_
    exact law_setHatch hst C0 hE hZ hv1 hv2 hv3 hv4 hk1 hk2 (hK.sub [] rfl) (hP.sub [0, 1, 3, 13, 14, 18] rfl) (hD.sub [0, 1, 3, 13, 14, 18] (by decide) rfl) hS hl
  · refine lv_tableIn (tgt := 399) hx hb dL_law_44 (by decide) (by decide) rfl (by decide) ?_
    exact law_setLeak hst C0 hE hZ hv1 hv2 hv3 hv4 hk1 hk2 (hK.sub [] rfl) (hP.sub [0, 1, 2, 13, 14, 15] rfl) (hD.sub [0, 1, 2, 13, 14, 15] (by decide) rfl) hS hl
  · refine lv_tableIn (tgt := 467) hx hb dL_law_44 (by decide) (by decide) rfl (by decide) ?_
    by_cases hc : sk1 = 115 ∨ sk1 = 101 ∨ sk1 = 108
    · exact law_addDevice_y hst C0 hE hZ hv1 hv2 hv3 hv4 hk1 hk2 (hK.sub [] rfl) (hP.sub [0, 1, 2, 13, 14, 15] rfl) (hD.sub [0, 1, 2, 13, 14, 15] (by decide) rfl) hS hl hc
    · exact law_addDevice_n hst C0 hE hZ hv1 hv2 hv3 hv4 hk1 hk2 (hK.sub [] rfl) (hP.sub [0, 1, 2, 13, 14, 15] rfl) (hD.sub [0, 1, 2, 13, 14, 15] (by decide) rfl) hS hl hc
  · refine lv_tableIn (tgt := 537) hx hb dL_law_44 (by decide) (by decide) rfl (by decide) ?_
    exact law_setDevice hst C0 hE hZ hv1 hv2 hv3 hv4 hk1 hk2 (hK.sub [] rfl) (hP.sub [0, 1, 4, 13, 14, 19] rfl) (hD.sub [0, 1, 4, 13, 14, 19] (by decide) rfl) hS hl
  · refine lv_tableIn (tgt := 628) hx hb dL_law_44 (by decide) (by decide) rfl (by decide) ?_
    by_cases hc : ¬ sv1 < 0 ∧ ¬ 40 < sv1
    · exact law_setPanels_y hst C0 hE hZ hv1 hv2 hv3 hv4 hk1 hk2 (hK.sub [4] rfl) (hP.sub [0, 1, 13, 14, 24] rfl) (hD.sub [0, 1, 13, 14, 24] (by decide) rfl) hS hl hc.1 hc.2
    · exact law_setPanels_n hst C0 hE hZ hv1 hv2 hv3 hv4 hk1 hk2 (hK.sub [] rfl) (hP.sub [0, 13, 14] rfl) (hD.sub [0, 13, 14] (by decide) rfl) hS hl hc
  · refine lv_tableIn (tgt := 684) hx hb dL_law_44 (by decide) (by decide) rfl (by decide) ?_
    exact law_board hst C0 hE hZ hv1 hv2 hv3 hv4 hk1 hk2 (hK.sub [] rfl) (hP.sub [0, 1, 2, 13, 14, 15] rfl) (hD.sub [0, 1, 2, 13, 14, 15] (by decide) rfl) hS hl
  · refine lv_tableIn (tgt := 740) hx hb dL_law_44 (by decide) (by decide) rfl (by decide) ?_
    exact law_move hst C0 hE hZ hv1 hv2 hv3 hv4 hk1 hk2 (hK.sub [] rfl) (hP.sub [0, 1, 5, 13, 14, 20] rfl) (hD.sub [0, 1, 5, 13, 14, 20] (by decide) rfl) hS hl
  · refine lv_tableIn (tgt := 808) hx hb dL_law_44 (by decide) (by decide) rfl (by decide) ?_
    exact law_setTask hst C0 hE hZ hv1 hv2 hv3 hv4 hk1 hk2 (hK.sub [] rfl) (hP.sub [0, 1, 5, 13, 14, 20] rfl) (hD.sub [0, 1, 5, 13, 14, 20] (by decide) rfl) hS hl
  · refine lv_tableIn (tgt := 878) hx hb dL_law_44 (by decide) (by decide) rfl (by decide) ?_
    by_cases hk : sk1 = 110 ∨ sk1 = 102 ∨ sk1 = 111 ∨ sk1 = 104
    · by_cases hc : ¬ sv3 < 1 ∧ ¬ 99 < sv3
      · by_cases hd : ¬ sv4 < 0 ∧ ¬ 99 < sv4
        · exact law_send_y hst C0 hE hZ hv1 hv2 hv3 hv4 hk1 hk2 (hK.sub [] rfl) (hP.sub [0, 1, 3, 4, 13, 14, 18, 19] rfl) (hD.sub [0, 1, 3, 4, 13, 14, 18, 19] (by decide) rfl) hS hl hk hc.1 hc.2 hd.1 hd.2
        · exact law_send_n3 hst C0 hE hZ hv1 hv2 hv3 hv4 hk1 hk2 (hK.sub [] rfl) (hP.sub [0, 1, 3, 4, 13, 14, 18, 19] rfl) (hD.sub [0, 1, 3, 4, 13, 14, 18, 19] (by decide) rfl) hS hl hk hc.1 hc.2 hd
      · exact law_send_n2 hst C0 hE hZ hv1 hv2 hv3 hv4 hk1 hk2 (hK.sub [] rfl) (hP.sub [0, 1, 3, 4, 13, 14, 18, 19] rfl) (hD.sub [0, 1, 3, 4, 13, 14, 18, 19] (by decide) rfl) hS hl hk hc
    · exact law_send_n1 hst C0 hE hZ hv1 hv2 hv3 hv4 hk1 hk2 (hK.sub [] rfl) (hP.sub [0, 1, 3, 4, 13, 14, 18, 19] rfl) (hD.sub [0, 1, 3, 4, 13, 14, 18, 19] (by decide) rfl) hS hl hk
  · refine lv_tableIn (tgt := 972) hx hb dL_law_44 (by decide) (by decide) rfl (by decide) ?_
    by_cases hc : ¬ sv1 < 1 ∧ ¬ 500 < sv1
    · by_cases hd : ¬ sv2 < 0 ∧ ¬ 99 < sv2
      · exact law_approach_y hst C0 hE hZ hv1 hv2 hv3 hv4 hk1 hk2 (hK.sub [1, 2, 3, 4] rfl) (hP.sub [0, 1, 7, 10, 11, 12, 13, 14, 21, 24] rfl) (hD.sub [0, 1, 7, 10, 11, 12, 13, 14, 21, 24] (by decide) rfl) hS hl hc.1 hc.2 hd.1 hd.2
      · exact law_approach_n2 hst C0 hE hZ hv1 hv2 hv3 hv4 hk1 hk2 (hK.sub [] rfl) (hP.sub [0, 13, 14, 21] rfl) (hD.sub [0, 13, 14, 21] (by decide) rfl) hS hl hc.1 hc.2 hd
    · exact law_approach_n1 hst C0 hE hZ hv1 hv2 hv3 hv4 hk1 hk2 (hK.sub [] rfl) (hP.sub [0, 13, 14, 21] rfl) (hD.sub [0, 13, 14, 21] (by decide) rfl) hS hl hc
  · refine lv_tableIn (tgt := 1040) hx hb dL_law_44 (by decide) (by decide) rfl (by decide) ?_
    exact law_burn hst C0 hE hZ hv1 hv2 hv3 hv4 hk1 hk2 (hK.sub [] rfl) (hP.sub [0, 1, 7, 13, 14, 21] rfl) (hD.sub [0, 1, 7, 13, 14, 21] (by decide) rfl) hS hl
  · refine lv_tableIn (tgt := 1108) hx hb dL_law_44 (by decide) (by decide) rfl (by decide) ?_
    by_cases hc : ¬ sv1 < 1 ∧ ¬ 90 < sv1
    · obtain ⟨n, hn, en⟩ := pass_nat hc.1 hc.2
      rw [en] at hc hv1
      exact law_pass_y (sk1 := sk1) hst C0 hE hZ hv1 hv2 hv3 hv4 hk2 (hK.sub [4] rfl) (hP.sub [0, 1, 2, 3, 4, 5, 6, 7, 13, 14, 15, 18, 19, 20, 21, 22, 24] rfl) (hD.sub [0, 1, 2, 3, 4, 5, 6, 7, 13, 14, 15, 18, 19, 20, 21, 22, 24] (by decide) rfl) hS hl hn hc.1 hc.2
    · exact law_pass_n hst C0 hE hZ hv1 hv2 hv3 hv4 hk1 hk2 (hK.sub [] rfl) (hP.sub [0, 13, 14] rfl) (hD.sub [0, 13, 14] (by decide) rfl) hS hl hc
  · refine lv_tableIn (tgt := 1164) hx hb dL_law_44 (by decide) (by decide) rfl (by decide) ?_
    exact law_endSafe hst C0 hE hZ hv1 hv2 hv3 hv4 hk1 hk2 (hK.sub [] rfl) (hP.sub [0, 1, 13, 14] rfl) (hD.sub [0, 1, 13, 14] (by decide) rfl) hS hl
  · refine lv_tableIn (tgt := 1177) hx hb dL_law_44 (by decide) (by decide) rfl (by decide) ?_
    exact law_oxygen hst C0 hE hZ hv1 hv2 hv3 hv4 hk1 hk2 (hK.sub [] rfl) (hP.sub [0, 1, 2, 13, 14, 15] rfl) (hD.sub [0, 1, 2, 13, 14, 15] (by decide) rfl) hS hl
  · refine lv_tableIn (tgt := 1233) hx hb dL_law_44 (by decide) (by decide) rfl (by decide) ?_
    exact law_carbon hst C0 hE hZ hv1 hv2 hv3 hv4 hk1 hk2 (hK.sub [] rfl) (hP.sub [0, 1, 2, 13, 14, 15] rfl) (hD.sub [0, 1, 2, 13, 14, 15] (by decide) rfl) hS hl
  · refine lv_tableIn (tgt := 1289) hx hb dL_law_44 (by decide) (by decide) rfl (by decide) ?_
    exact law_water hst C0 hE hZ hv1 hv2 hv3 hv4 hk1 hk2 (hK.sub [] rfl) (hP.sub [0, 1, 13, 14] rfl) (hD.sub [0, 1, 13, 14] (by decide) rfl) hS hl
  · refine lv_tableIn (tgt := 1302) hx hb dL_law_44 (by decide) (by decide) rfl (by decide) ?_
    exact law_battery hst C0 hE hZ hv1 hv2 hv3 hv4 hk1 hk2 (hK.sub [] rfl) (hP.sub [0, 1, 13, 14] rfl) (hD.sub [0, 1, 13, 14] (by decide) rfl) hS hl
  · refine lv_tableIn (tgt := 1315) hx hb dL_law_44 (by decide) (by decide) rfl (by decide) ?_
    exact law_whereIs hst C0 hE hZ hv1 hv2 hv3 hv4 hk1 hk2 (hK.sub [] rfl) (hP.sub [0, 1, 5, 13, 14, 20] rfl) (hD.sub [0, 1, 5, 13, 14, 20] (by decide) rfl) hS hl
  · refine lv_tableIn (tgt := 1371) hx hb dL_law_44 (by decide) (by decide) rfl (by decide) ?_
    exact law_distance hst C0 hE hZ hv1 hv2 hv3 hv4 hk1 hk2 (hK.sub [] rfl) (hP.sub [0, 1, 7, 13, 14, 21] rfl) (hD.sub [0, 1, 7, 13, 14, 21] (by decide) rfl) hS hl
  · refine lv_tableIn (tgt := 1427) hx hb dL_law_44 (by decide) (by decide) rfl (by decide) ?_
    exact law_isOn hst C0 hE hZ hv1 hv2 hv3 hv4 hk1 hk2 (hK.sub [] rfl) (hP.sub [0, 1, 4, 13, 14, 19] rfl) (hD.sub [0, 1, 4, 13, 14, 19] (by decide) rfl) hS hl
  · refine lv_tableIn (tgt := 1490) hx hb dL_law_44 (by decide) (by decide) rfl (by decide) ?_
    exact law_isSafe hst C0 hE hZ hv1 hv2 hv3 hv4 hk1 hk2 (hK.sub [] rfl) (hP.sub [0, 1, 13, 14] rfl) (hD.sub [0, 1, 13, 14] (by decide) rfl) hS hl
  · refine lv_tableIn (tgt := 1503) hx hb dL_law_44 (by decide) (by decide) rfl (by decide) ?_
    exact law_events hst C0 hE hZ hv1 hv2 hv3 hv4 hk1 hk2 (hK.sub [] rfl) (hP.sub [0, 1, 8, 13, 14, 23] rfl) (hD.sub [0, 1, 8, 13, 14, 23] (by decide) rfl) hS hl
  · refine lv_tableIn (tgt := 1516) hx hb dL_law_44 (by decide) (by decide) rfl (by decide) ?_
    exact law_eventAt hst C0 hE hZ hv1 hv2 hv3 hv4 hk1 hk2 (hK.sub [] rfl) (hP.sub [0, 1, 8, 13, 14, 23] rfl) (hD.sub [0, 1, 8, 13, 14, 23] (by decide) rfl) hS hl
  · refine lv_tableIn (tgt := 1572) hx hb dL_law_44 (by decide) (by decide) rfl (by decide) ?_
    exact law_timeLeft hst C0 hE hZ hv1 hv2 hv3 hv4 hk1 hk2 (hK.sub [] rfl) (hP.sub [0, 1, 5, 13, 14, 15, 16, 17, 18, 19, 20, 21, 22] rfl) (hD.sub [0, 1, 5, 13, 14, 15, 16, 17, 18, 19, 20, 21, 22] (by decide) rfl) hS hl
  · refine lv_tableIn (tgt := 1585) hx hb dL_law_44 (by decide) (by decide) rfl (by decide) ?_
    exact law_worst hst C0 hE hZ hv1 hv2 hv3 hv4 hk1 hk2 (hK.sub [] rfl) (hP.sub [0, 1, 4, 5, 13, 14, 15, 16, 17, 18, 19, 20, 21, 22] rfl) (hD.sub [0, 1, 4, 5, 13, 14, 15, 16, 17, 18, 19, 20, 21, 22] (by decide) rfl) hS hl
  · refine lv_tableIn (tgt := 1598) hx hb dL_law_44 (by decide) (by decide) rfl (by decide) ?_
    exact law_checksum hst C0 hE hZ hv1 hv2 hv3 hv4 hk1 hk2 (hK.sub [] rfl) (hP.sub [0, 1, 2, 13, 14, 15] rfl) (hD.sub [0, 1, 2, 13, 14, 15] (by decide) rfl) hS hl
  · refine lv_tableIn (tgt := 1612) hx hb dL_law_44 (by decide) (by decide) rfl (by decide) ?_
    exact law_aliveShare hst C0 hE hZ hv1 hv2 hv3 hv4 hk1 hk2 (hK.sub [] rfl) (hP.sub [0, 1, 5, 13, 14, 20] rfl) (hD.sub [0, 1, 5, 13, 14, 20] (by decide) rfl) hS hl
  · refine lv_tableIn (tgt := 1678) hx hb dL_law_44 (by decide) (by decide) rfl (by decide) ?_
    exact law_meanOxygen hst C0 hE hZ hv1 hv2 hv3 hv4 hk1 hk2 (hK.sub [] rfl) (hP.sub [0, 1, 2, 13, 14, 15] rfl) (hD.sub [0, 1, 2, 13, 14, 15] (by decide) rfl) hS hl
  · refine lv_tableIn (tgt := 1743) hx hb dL_law_44 (by decide) (by decide) rfl (by decide) ?_
    exact law_isSound hst C0 hE hZ hv1 hv2 hv3 hv4 hk1 hk2 (hK.sub [] rfl) (hP.sub [0, 1, 2, 4, 5, 6, 13, 14] rfl) (hD.sub [0, 1, 2, 4, 5, 6, 13, 14] (by decide) rfl) hS hl
  · refine lv_tableOut (tgt := 1756) hx hb dL_law_44 (by decide) (by decide) ?_
    exact law_end C0 hS (lv_sub hl [0, 5] rfl) (Nat.le_of_ble_eq_true rfl) (Nat.le_of_ble_eq_true rfl)
set_option maxHeartbeats 4000000 in
theorem lw_walk (l : Launch) (hflags : l.flags = flags0) (b : Addr) (xs : List Int32) : MetFree l x (headSpec (Jvm.Cond.code x code maxLocals ret :: tables_1) room_1) (lw_P b xs) (fun _ _ _ _ _ => True) lw_Q := by
  refine MetFree.of_bodyS (code := code) (maxLocals := maxLocals) (ret := ret) (by decide) ?_ ?_
  · intro args s m h hn
    obtain ⟨meth, c, h1, h2, h3, h4, h5, h6, -, -⟩ := Cond.code_spec hn (atoms_spec (ws := Jvm.Cond.code x code maxLocals ret :: tables_1) h _ List.mem_cons_self)
    exact ⟨meth, c, h1, h2, h3, h4, h5, h6⟩
  · intro p e s m args below meth c s₁ B hml0 hP _
    obtain ⟨rfl, hx, hbd, hgv⟩ := hP
    obtain ⟨scr, harrAt, hlist, hof, hsmall⟩ := hx
    obtain ⟨hcb, hkn, -, -⟩ := State.arrayAt?_spec harrAt
    have hown : s.vm.findClass R_law = some m.cls := findClass_of_methodNamed B.named
    have hts0 : ∀ c ∈ (Jvm.Cond.code x code maxLocals ret :: tables_1), c.before #[Value.ref b] s = true := atoms_spec (ws := Jvm.Cond.code x code maxLocals ret :: tables_1) B.pre
    have hts : ∀ w ∈ lw_tbl, w.before #[Value.ref b] s = true := k2_hts_sels lw_privs (fun w hw => hts0 w (List.mem_cons_of_mem _ hw)) lw_privs_ok
    have hml : c.maxLocals = 9 := B.maxLocals_eq (hts0 _ List.mem_cons_self)
    have X₀ : Stand p l e room_1 s m #[Value.ref b] below meth c s₁ [] 0 0 := Stand.of_body B
    have hh0 : s₁.heap = s.heap := by rw [B.state]; rfl
    have hsz : scr.slots.size = xs.length := by rw [← Array.length_toList, hlist, List.length_map]
    have hval : ∀ j : Nat, j < xs.length → scr.slots[j]? = some (.int (xs.getD j 0)) := fun j hj => by
      rw [← Array.getElem?_toList, hlist]
      simp [hj]
    have hbl : b < s.heap.size := (Array.getElem?_eq_some_iff.mp hcb).1
    have hX : va_X b xs.length (fun j => xs.getD j 0) s s.heap := ⟨scr, hcb, hof, hkn, hsz, hval⟩
    have K : W p l e room_1 s m #[Value.ref b] below meth c s₁.heap [] 0 0 (lw_Z below #[Value.ref b] s) (entryFrame m ([Value.ref b] : List Value).toArray 9) := by
      rw [hh0]
      exact whole_start l hflags hbd ⟨B.exec, B.bytes, B.returns, hml, hown, hts, hX, hbl, B.notSynchronized, hgv⟩
    obtain ⟨t, a1, o, b1, b2, b3⟩ := K s₁ rfl X₀
    exact ⟨t, o, a1, b1, b2, b3⟩
theorem lw_pre_spec {args : Array Value} {s : State} (h : (Jvm.Cond.and given_1 narrow_1).before args s = true) (hr : rest_1_c.before args s = true) : ∃ (b : Addr) (xs : List Int32), lw_P b xs args s := by
  have hs := flat_of_before _ h
  have hq := flat_of_before _ hr
  have hc : (Cond.count 1).before args s = true := hs _ (by decide +kernel)
  have harr : (Cond.arrayOf (.arg 0) .int).before args s = true := hs _ (by decide +kernel)
  have hle : (Cond.le (.length (.arg 0)) (.int 5)).before args s = true := hs _ (by decide +kernel)
  have hlen : (Cond.isInt (.length (.arg 0))).before args s = true := hq _ (by decide +kernel)
  have hall : (Cond.all (.arg 0) (.isInt (.elem (.arg 0) (.index 0)))).before args s = true := hq _ (by decide +kernel)
  obtain ⟨b, xs, hb, hx⟩ := State.ints_of_pre rfl harr hlen hall
  have hsm : xs.length < 2 ^ 31 := hx.choose_spec.2.2.2
  have hev : (Term.length (.arg 0)).eval args s none [] s = some (.int xs.length.toInt32) := hx.length_eval hb
  have hv := Cond.le_ints hev (show (Term.int 5).eval args s none [] s = some (.int 5) from rfl)
  have hd : xs.length.toInt32 ≤ 5 := by
    simpa [Cond.before, Cond.holds, hv] using hle
  have hN : xs.length ≤ 5 := (Int32.ofNat_le_ofNat hsm (by decide)).mp (show Int32.ofNat xs.length ≤ Int32.ofNat 5 from hd)
  exact ⟨b, xs, Cond.one_arg hc (show args[0]? = some (.ref b) from hb), hx, hN, h⟩
theorem lw_comes (l : Launch) (hflags : l.flags = flags0) : Comes l x (Jvm.Cond.code x code maxLocals ret :: tables_1) room_1 (fun tb e args s => Calls_1 tb e args s ∧ rest_1 tb e args s ∧ Pre_1 tb e args s)
    (fun _ _ args s o t => lw_Q args s o t) := by
  intro p e ha hc hk s m args below hf hfit hheap happ hpre
  obtain ⟨b, xs, hP⟩ := lw_pre_spec hpre.2.2 hpre.2.1
  obtain ⟨k, o, h1, h2, h3, hQ⟩ := lw_walk l hflags b xs p e ha hc hk s m args below hf ((Spec.applies_iff_loose hf).mp happ).1 hP trivial
  exact ⟨k, o, h1, h2, h3, hQ⟩
theorem lw_frame {s t : State} {o : Outcome} {args : Array Value} (h : State.butDraws s t lw_cs (fun t1 => Framed s o t1 [] 600006 7302048)) :
    State.butDraws s t [Jvm.Choice.named "NaN.bits"] (fun t1 => Framed s o t1 (fieldLocs frame_1_writes args s ++ arrayLocs frame_1_arrays args s ++ staticLocs frame_1_statics s) 600006 7302048) := h
theorem lw_limb (L : Cond) (hL : ∀ (args : Array Value) (s t : State), L.after args s (.returned (some (.int 1))) t = true) :
    ArmFor flags0 classFile x code maxLocals ret World_1 tables_1 room_1 Calls_1 rest_1 Pre_1
      (fun tb e a s o t => postC L tb e a s o t ∧ State.butDraws s t [Jvm.Choice.named "NaN.bits"] (fun t1 => Framed s o t1 (fieldLocs frame_1_writes a s ++ arrayLocs frame_1_arrays a s ++ staticLocs frame_1_statics s) 600006 7302048)) := by
  intro l hflags _ _ p e ha hc hk s m args below hf hfit hheap happ hpre
  obtain ⟨k, o, h1, h2, h3, rfl, hF⟩ := lw_comes l hflags p e ha hc hk s m args below hf hfit hheap happ hpre
  exact ⟨k, _, h1, h2, h3, hL args s _, lw_frame hF⟩
theorem i_vc : Claimed_1_1 ∧ Claimed_1_2 := ⟨lw_limb limb_1_1 (fun args s t => by simp [limb_1_1, Cond.after, Cond.holds, Cond.value]), lw_limb limb_1_2 (fun args s t => Cond.after_iff.mpr (by
  first | (rw [show limb_1_2 = Cond.eq .result (.int 1) from rfl, Cond.eq_ints (x := 1) (y := 1) rfl rfl]; simp; done) | (simp [limb_1_2, Cond.value, Term.eval]; done)))⟩


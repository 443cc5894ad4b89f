set_option maxHeartbeats 4000000 in
set_option maxRecDepth 100000 in
theorem known_all {s : State} {args : Array Value} (hts : ∀ w ∈ lw_tbl, w.before args s = true) : ∃ (dC : Nat → ClassId) (dI : Nat → Nat → Nat), ∀ (k : Nat) (q : vw_C), vwCl[k]? = some q → u_Kn s q.1 q.2.1 q.2.2 (dC k) (dI k) := by
  obtain ⟨c0, i0, h0⟩ := u_known (C := RJ0) (T := TJ0) (N := 2) (n := 4) hts inJ0 (hts _ (List.mem_of_getElem? (i := 682) (by decide +kernel)))
  obtain ⟨c1, i1, h1⟩ := u_known (C := RJ6) (T := TJ6) (N := 1) (n := 1) hts inJ6 (hts _ (List.mem_of_getElem? (i := 1092) (by decide +kernel)))
  obtain ⟨c2, i2, h2⟩ := u_known (C := RJ11) (T := TJ11) (N := 1) (n := 1) hts inJ11 (hts _ (List.mem_of_getElem? (i := 1488) (by decide +kernel)))
  obtain ⟨c3, i3, h3⟩ := u_known (C := RJx00060) (T := TJx00060) (N := 6) (n := 6) hts inJx00060 (hts _ (List.mem_of_getElem? (i := 664) (by decide +kernel)))
  obtain ⟨c4, i4, h4⟩ := u_known (C := RJx35411) (T := TJx35411) (N := 4) (n := 4) hts inJx35411 (hts _ (List.mem_of_getElem? (i := 1336) (by decide +kernel)))
  obtain ⟨c5, i5, h5⟩ := u_known (C := RJx4a65c) (T := TJx4a65c) (N := 3) (n := 3) hts inJx4a65c (hts _ (List.mem_of_getElem? (i := 967) (by decide +kernel)))
  obtain ⟨c6, i6, h6⟩ := u_known (C := RX0) (T := TX0) (N := 5) (n := 5) hts inX0 (hts _ (List.mem_of_getElem? (i := 205) (by decide +kernel)))
  obtain ⟨c7, i7, h7⟩ := u_known (C := RX1) (T := TX1) (N := 6) (n := 6) hts inX1 (hts _ (List.mem_of_getElem? (i := 175) (by decide +kernel)))
  obtain ⟨c8, i8, h8⟩ := u_known (C := RX2) (T := TX2) (N := 5) (n := 5) hts inX2 (hts _ (List.mem_of_getElem? (i := 143) (by decide +kernel)))
  obtain ⟨c9, i9, h9⟩ := u_known (C := RX3) (T := TX3) (N := 2) (n := 2) hts inX3 (hts _ (List.mem_of_getElem? (i := 260) (by decide +kernel)))
  obtain ⟨c10, i10, h10⟩ := u_known (C := RX4) (T := TX4) (N := 4) (n := 4) hts inX4 (hts _ (List.mem_of_getElem? (i := 117) (by decide +kernel)))
  obtain ⟨c11, i11, h11⟩ := u_known (C := RX5) (T := TX5) (N := 5) (n := 5) hts inX5 (hts _ (List.mem_of_getElem? (i := 89) (by decide +kernel)))
  obtain ⟨c12, i12, h12⟩ := u_known (C := RX6) (T := TX6) (N := 6) (n := 6) hts inX6 (hts _ (List.mem_of_getElem? (i := 230) (by decide +kernel)))
  obtain ⟨c13, i13, h13⟩ := u_known (C := RX7) (T := TX7) (N := 14) (n := 14) hts inX7 (hts _ (List.mem_of_getElem? (i := 83) (by decide +kernel)))
  obtain ⟨c14, i14, h14⟩ := u_known (C := RX8) (T := TX8) (N := 2) (n := 2) hts inX8 (hts _ (List.mem_of_getElem? (i := 75) (by decide +kernel)))
  obtain ⟨c15, i15, h15⟩ := u_known (C := RX9) (T := TX9) (N := 4) (n := 4) hts inX9 (hts _ (List.mem_of_getElem? (i := 1390) (by decide +kernel)))
  obtain ⟨c16, i16, h16⟩ := u_known (C := RX10) (T := TX10) (N := 4) (n := 4) hts inX10 (hts _ (List.mem_of_getElem? (i := 1260) (by decide +kernel)))
  obtain ⟨c17, i17, h17⟩ := u_known (C := RX11) (T := TX11) (N := 3) (n := 3) hts inX11 (hts _ (List.mem_of_getElem? (i := 1189) (by decide +kernel)))
  obtain ⟨c18, i18, h18⟩ := u_known (C := RX12) (T := TX12) (N := 3) (n := 3) hts inX12 (hts _ (List.mem_of_getElem? (i := 1302) (by decide +kernel)))
  obtain ⟨c19, i19, h19⟩ := u_known (C := RX13) (T := TX13) (N := 4) (n := 4) hts inX13 (hts _ (List.mem_of_getElem? (i := 1417) (by decide +kernel)))
  obtain ⟨c20, i20, h20⟩ := u_known (C := RX14) (T := TX14) (N := 14) (n := 14) hts inX14 (hts _ (List.mem_of_getElem? (i := 961) (by decide +kernel)))
  obtain ⟨c21, i21, h21⟩ := u_known (C := RX15) (T := TX15) (N := 2) (n := 2) hts inX15 (hts _ (List.mem_of_getElem? (i := 955) (by decide +kernel)))
  refine ⟨fun k => [c0, c1, c2, c3, c4, c5, c6, c7, c8, c9, c10, c11, c12, c13, c14, c15, c16, c17, c18, c19, c20, c21].getD k 0, fun k => [i0, i1, i2, i3, i4, i5, i6, i7, i8, i9, i10, i11, i12, i13, i14, i15, i16, i17, i18, i19, i20, i21].getD k i0, ?_⟩
  intro k q hq
  match k, hq with
  | 0, hq => cases hq; exact h0
  | 1, hq => cases hq; exact h1
  | 2, hq => cases hq; exact h2
  | 3, hq => cases hq; exact h3
  | 4, hq => cases hq; exact h4
  | 5, hq => cases hq; exact h5
  | 6, hq => cases hq; exact h6
  | 7, hq => cases hq; exact h7
  | 8, hq => cases hq; exact h8
  | 9, hq => cases hq; exact h9
  | 10, hq => cases hq; exact h10
  | 11, hq => cases hq; exact h11
  | 12, hq => cases hq; exact h12
  | 13, hq => cases hq; exact h13
  | 14, hq => cases hq; exact h14
  | 15, hq => cases hq; exact h15
  | 16, hq => cases hq; exact h16
  | 17, hq => cases hq; exact h17
  | 18, hq => cases hq; exact h18
  | 19, hq => cases hq; exact h19
  | 20, hq => cases hq; exact h20
  | 21, hq => cases hq; exact h21
  | k + 22, hq => simp [vwCl] at hq
theorem mkE (f ad : Nat → Nat) : ∃ E : Nat → Nat, (∀ k, k < 9 → E k = f k) ∧ ∀ k, E (100 + k) = ad k := ⟨fun n => if n < 9 then f n else ad (n - 100), fun k h => if_pos h, fun k => by
  show (if 100 + k < 9 then f (100 + k) else ad (100 + k - 100)) = ad k
  rw [if_neg (by omega), Nat.add_sub_cancel_left]⟩
theorem str_of {own tx : String} {k cur : Nat} {args : Array Value} {s : State} (hcur : s.vm.findClass own = some cur) (h : (Cond.stringRef own k tx).before args s = true) : ∃ a : Nat, vk_R own k tx a s := by
  obtain ⟨_, _, _, a, _, _, _, _, _, he⟩ := Cond.stringRef_spec hcur h
  exact ⟨a, vk_R.of h he⟩
set_option maxHeartbeats 4000000 in
set_option maxRecDepth 100000 in
theorem facts_all {s : State} {b : Nat} {A : Nat → Prop} (hts : ∀ w ∈ lw_tbl, w.before #[Value.ref b] s = true) (hgv : (Jvm.Cond.and given_1 narrow_1).before #[Value.ref b] s = true) (hA : ∀ a : Nat, a < s.heap.size → ¬ A a) {cur : Nat} (hcur : s.vm.findClass RX8 = some cur) : ∃ E : Nat → Nat, ev E s ∧ es E A s s.heap := by
  have hs := flat_of_before _ hgv
  obtain ⟨a3, hs3⟩ := str_of (own := RX8) (k := 279) (tx := "no such numbe\x72") hcur (hts _ (List.mem_of_getElem? (i := 707) (by decide +kernel)))
  obtain ⟨a4, hs4⟩ := str_of (own := RX8) (k := 282) (tx := "out of range") hcur (hts _ (List.mem_of_getElem? (i := 609) (by decide +kernel)))
  obtain ⟨a5, hs5⟩ := str_of (own := RX8) (k := 85) (tx := "no such kind of device") hcur (hts _ (List.mem_of_getElem? (i := 742) (by decide +kernel)))
  obtain ⟨a6, hs6⟩ := str_of (own := RX8) (k := 149) (tx := "no such kind of command") hcur (hts _ (List.mem_of_getElem? (i := 832) (by decide +kernel)))
  obtain ⟨a7, hs7⟩ := str_of (own := RX8) (k := 241) (tx := "nobody came") hcur (hts _ (List.mem_of_getElem? (i := 944) (by decide +kernel)))
  obtain ⟨a8, hs8⟩ := str_of (own := RX8) (k := 247) (tx := "there are no rooms") hcur (hts _ (List.mem_of_getElem? (i := 952) (by decide +kernel)))
  obtain ⟨mi, hmi⟩ := va_Mi.of (C := "[Ljava/lang/Object;") (hs (.isRef (.mirror "[Ljava/lang/Object;")) (by decide +kernel))
  obtain ⟨e0, he0, hT0⟩ := va_Tof (N := 0) (f := fun _ => .null) (A := A) (by decide) (hs (.arrayOf (.static "java/util/ArrayList" "DEFAULTCAPACITY_EMPTY_ELEMENTDATA" "[Ljava/lang/Object;") (.object "java/lang/Object")) (by decide +kernel)) (by obtain ⟨w, h1, h2⟩ := Cond.eq_one (show (Cond.eq (.length (.static "java/util/ArrayList" "DEFAULTCAPACITY_EMPTY_ELEMENTDATA" "[Ljava/lang/Object;")) (.int 0)).holds #[Value.ref b] s none s [] = true from (hs (.eq (.length (.static "java/util/ArrayList" "DEFAULTCAPACITY_EMPTY_ELEMENTDATA" "[Ljava/lang/Object;")) (.int 0)) (by decide +kernel))); rw [h1]; exact h2.symm ▸ rfl) (fun j h => absurd h (Nat.not_lt_zero j)) hA
  have hZ0 := va_Zof (hts _ (List.mem_of_getElem? (i := 979) (by decide +kernel))) (hts _ (List.mem_of_getElem? (i := 46) (by decide +kernel))) he0 hA
  have hO0 := va_Oof (hs (.exactly (.static "java/util/ArrayList" "DEFAULTCAPACITY_EMPTY_ELEMENTDATA" "[Ljava/lang/Object;") "[Ljava/lang/Object;") (by decide +kernel)) he0 hA
  have hhi : (Term.static "java/lang/Integer$IntegerCache" "high" "I").eval #[Value.ref b] s none [] s = some (.int 127) := by obtain ⟨w, h1, h2⟩ := Cond.eq_one (show (Cond.eq (.static "java/lang/Integer$IntegerCache" "high" "I") (.int 127)).holds #[Value.ref b] s none s [] = true from (hs (.eq (.static "java/lang/Integer$IntegerCache" "high" "I") (.int 127)) (by decide +kernel))); rw [h1]; exact h2.symm ▸ rfl
  have hZ1 := va_Zof (hts _ (List.mem_of_getElem? (i := 1088) (by decide +kernel))) (hts _ (List.mem_of_getElem? (i := 54) (by decide +kernel))) hhi hA
  have hcl : (Term.length (.static "java/lang/Integer$IntegerCache" "cache" "[Ljava/lang/Integer;")).eval #[Value.ref b] s none [] s = some (.int (Int32.ofNat 256)) := by obtain ⟨w, h1, h2⟩ := Cond.eq_one (show (Cond.eq (.length (.static "java/lang/Integer$IntegerCache" "cache" "[Ljava/lang/Integer;")) (.int 256)).holds #[Value.ref b] s none s [] = true from (hs (.eq (.length (.static "java/lang/Integer$IntegerCache" "cache" "[Ljava/lang/Integer;")) (.int 256)) (by decide +kernel))); rw [h1]; exact h2.symm ▸ rfl
  obtain ⟨ad, hB, hel⟩ := vb_Cof (A := A) (st := (.static "java/lang/Integer$IntegerCache" "cache" "[Ljava/lang/Integer;")) rfl hcl (hs (.all (.static "java/lang/Integer$IntegerCache" "cache" "[Ljava/lang/Integer;") (.and (.exactly (.elem (.static "java/lang/Integer$IntegerCache" "cache" "[Ljava/lang/Integer;") (.index 0)) "java/lang/Integer") (.eq (.field (.elem (.static "java/lang/Integer$IntegerCache" "cache" "[Ljava/lang/Integer;") (.index 0)) "java/lang/Integer" "value" "I") (.sub (.index 0) (.int 128))))) (by decide +kernel)) hA
  obtain ⟨e2, he2, hT2⟩ := va_Tof (N := 256) (f := fun k => .ref (ad k)) (A := A) (by decide) (hs (.arrayOf (.static "java/lang/Integer$IntegerCache" "cache" "[Ljava/lang/Integer;") (.object "java/lang/Integer")) (by decide +kernel)) hcl (fun j h => hel j h) hA
  have hZ2 := va_Zof (hts _ (List.mem_of_getElem? (i := 1090) (by decide +kernel))) (hts _ (List.mem_of_getElem? (i := 54) (by decide +kernel))) he2 hA
  have hU := vx_Zqof (A := A) (hts _ (List.mem_of_getElem? (i := 592) (by decide +kernel))) (hts _ (List.mem_of_getElem? (i := 47) (by decide +kernel))) (hs (.isRef (.static "java/lang/Throwable" "UNASSIGNED_STACK" "[Ljava/lang/StackTraceElement;")) (by decide +kernel)) hA
  have hN := vx_Zqof (A := A) (hts _ (List.mem_of_getElem? (i := 594) (by decide +kernel))) (hts _ (List.mem_of_getElem? (i := 47) (by decide +kernel))) (hs (.isRef (.static "java/lang/Throwable" "SUPPRESSED_SENTINEL" "Ljava/util/List;")) (by decide +kernel)) hA
  obtain ⟨E, hE, hEa⟩ := mkE (fun k => match k with | 0 => e0 | 1 => mi | 2 => e2 | 3 => a3 | 4 => a4 | 5 => a5 | 6 => a6 | 7 => a7 | _ => a8) ad
  have q0 := hE 0 (by decide)
  have q1 := hE 1 (by decide)
  have q2 := hE 2 (by decide)
  have q3 := hE 3 (by decide)
  have q4 := hE 4 (by decide)
  have q5 := hE 5 (by decide)
  have q6 := hE 6 (by decide)
  have q7 := hE 7 (by decide)
  have q8 := hE 8 (by decide)
  simp only at q0 q1 q2 q3 q4 q5 q6 q7 q8
  have hfa : (fun k => E (100 + k)) = ad := funext hEa
  have hfr : (fun k => Value.ref (E (100 + k))) = fun k => Value.ref (ad k) := funext fun k => by rw [hEa]
  have hF : ev_F s := ⟨va_Fw.of (hts _ (List.mem_of_getElem? (i := 1077) (by decide +kernel))) (hts _ (List.mem_of_getElem? (i := 1076) (by decide +kernel))) (hts _ (List.mem_of_getElem? (i := 1082) (by decide +kernel))) (hts _ (List.mem_of_getElem? (i := 1080) (by decide +kernel))) (hts _ (List.mem_of_getElem? (i := 1078) (by decide +kernel))), va_Fw.of (hts _ (List.mem_of_getElem? (i := 1679) (by decide +kernel))) (hts _ (List.mem_of_getElem? (i := 1678) (by decide +kernel))) (hts _ (List.mem_of_getElem? (i := 1683) (by decide +kernel))) (hts _ (List.mem_of_getElem? (i := 1681) (by decide +kernel))) (hts _ (List.mem_of_getElem? (i := 1078) (by decide +kernel))), va_Fw.of (hts _ (List.mem_of_getElem? (i := 1329) (by decide +kernel))) (hts _ (List.mem_of_getElem? (i := 1328) (by decide +kernel))) (hts _ (List.mem_of_getElem? (i := 1333) (by decide +kernel))) (hts _ (List.mem_of_getElem? (i := 1331) (by decide +kernel))) (hts _ (List.mem_of_getElem? (i := 1078) (by decide +kernel))), va_Fw.of (hts _ (List.mem_of_getElem? (i := 1107) (by decide +kernel))) (hts _ (List.mem_of_getElem? (i := 1106) (by decide +kernel))) (hts _ (List.mem_of_getElem? (i := 1111) (by decide +kernel))) (hts _ (List.mem_of_getElem? (i := 1109) (by decide +kernel))) (hts _ (List.mem_of_getElem? (i := 1078) (by decide +kernel))), va_Fw.of (hts _ (List.mem_of_getElem? (i := 1626) (by decide +kernel))) (hts _ (List.mem_of_getElem? (i := 1625) (by decide +kernel))) (hts _ (List.mem_of_getElem? (i := 1630) (by decide +kernel))) (hts _ (List.mem_of_getElem? (i := 1628) (by decide +kernel))) (hts _ (List.mem_of_getElem? (i := 1078) (by decide +kernel))), va_Fw.of (hts _ (List.mem_of_getElem? (i := 1635) (by decide +kernel))) (hts _ (List.mem_of_getElem? (i := 1634) (by decide +kernel))) (hts _ (List.mem_of_getElem? (i := 1640) (by decide +kernel))) (hts _ (List.mem_of_getElem? (i := 1638) (by decide +kernel))) (hts _ (List.mem_of_getElem? (i := 1636) (by decide +kernel))), va_Fw.of (hts _ (List.mem_of_getElem? (i := 1357) (by decide +kernel))) (hts _ (List.mem_of_getElem? (i := 1356) (by decide +kernel))) (hts _ (List.mem_of_getElem? (i := 1362) (by decide +kernel))) (hts _ (List.mem_of_getElem? (i := 1360) (by decide +kernel))) (hts _ (List.mem_of_getElem? (i := 1358) (by decide +kernel)))⟩
  have hSt : ev_S E s := by
    unfold ev_S
    rw [q3, q4, q5, q6, q7, q8]
    exact ⟨hs3, hs4, hs5, hs6, hs7, hs8⟩
  have hC : ev_C s := ⟨va_Nw.of rfl (hts _ (List.mem_of_getElem? (i := 886) (by decide +kernel))), va_Nw.of rfl (hts _ (List.mem_of_getElem? (i := 567) (by decide +kernel))), va_Nw.of rfl (hts _ (List.mem_of_getElem? (i := 700) (by decide +kernel))), va_Nc.of (hs (.not (.castable "java/lang/IndexOutOfBoundsException" "java/lang/IllegalArgumentException")) (by decide +kernel)), va_Nc.of (hs (.not (.castable "java/lang/ArithmeticException" "java/lang/IllegalArgumentException")) (by decide +kernel)), va_Nc.of (hs (.not (.castable "java/lang/IllegalArgumentException" "java/lang/IndexOutOfBoundsException")) (by decide +kernel)), va_Nw.of rfl (hts _ (List.mem_of_getElem? (i := 1693) (by decide +kernel))), va_Nw.of rfl (hts _ (List.mem_of_getElem? (i := 1717) (by decide +kernel))), va_Nw.of rfl (hts _ (List.mem_of_getElem? (i := 569) (by decide +kernel))), va_Nw.of rfl (hts _ (List.mem_of_getElem? (i := 571) (by decide +kernel))), va_Nw.of rfl (hts _ (List.mem_of_getElem? (i := 573) (by decide +kernel)))⟩
  have hM : ev_M E s := ⟨by rw [q1]; exact hmi, va_Dc.of (hts _ (List.mem_of_getElem? (i := 1723) (by decide +kernel))), va_AO.of (hts _ (List.mem_of_getElem? (i := 1172) (by decide +kernel)))⟩
  have hNn : ev_N s := ⟨va_Nw.of rfl (hts _ (List.mem_of_getElem? (i := 982) (by decide +kernel))), va_Nw.of rfl (hts _ (List.mem_of_getElem? (i := 90) (by decide +kernel))), va_Nw.of rfl (hts _ (List.mem_of_getElem? (i := 118) (by decide +kernel))), va_Nw.of rfl (hts _ (List.mem_of_getElem? (i := 144) (by decide +kernel))), va_Nw.of rfl (hts _ (List.mem_of_getElem? (i := 176) (by decide +kernel))), va_Nw.of rfl (hts _ (List.mem_of_getElem? (i := 206) (by decide +kernel))), va_Nw.of rfl (hts _ (List.mem_of_getElem? (i := 231) (by decide +kernel))), va_Nw.of rfl (hts _ (List.mem_of_getElem? (i := 962) (by decide +kernel)))⟩
  refine ⟨E, ⟨hF, hSt, hC, hM, hNn⟩, ?_, ⟨hU, hN⟩, ?_⟩
  · unfold es_A; rw [q0]; exact ⟨hZ0, hT0, hO0⟩
  · unfold es_I; rw [q2, hfa, hfr]; exact ⟨hZ1, hZ2, hT2, hB⟩

/-! the law's start -/
theorem arr_prim {ty : FieldType} {args : Array Value} {s : State} (h : (Cond.arrayClass ty).before args s = true) : ∃ cA, ArrOfT s cA ty ∧ s.vm.findClass ("[" ++ ty.toString) = some cA := by
  obtain ⟨cA, kA, comp, h1, h2, h3⟩ := Cond.arrayClass_spec h
  exact ⟨cA, fun n z => ⟨fun k h => (by cases h), kA, h2, comp, h3⟩, h1⟩
theorem arr_obj {C : String} {args : Array Value} {s : State} (h : (Cond.arrayOver (.object C)).before args s = true) : ∃ cA, ArrOfT s cA (.object C) ∧ va_RA s cA (.object C) := by
  obtain ⟨comp, cA, kA, h1, h2, h3, h4, h5⟩ := Cond.arrayOver_spec h
  exact ⟨cA, fun n z => ⟨fun k h => (by cases h), kA, h3, comp, h4⟩, kA, comp, h3, h4, h1, h5⟩
theorem arr_arr {t : FieldType} {args : Array Value} {s : State} (h : (Cond.arrayOver (.array t)).before args s = true) : ∃ cA, ArrOfT s cA (.array t) ∧ s.vm.findClass ("[" ++ (FieldType.array t).toString) = some cA := by
  obtain ⟨comp, cA, kA, h1, h2, h3, h4, h5⟩ := arrayOver_specB h
  exact ⟨cA, fun n z => ⟨fun k h => (by cases h), kA, h3, comp, h4⟩, h5⟩
theorem nf_in : ∀ w ∈ qNF, Cond.fieldLinkNest w.1 w.2.1 w.2.2.1 w.2.2.2.1 w.2.2.2.2.1 w.2.2.2.2.2 ∈ lw_tbl := by decide +kernel
theorem nm_in : ∀ w ∈ qNM, Cond.methodLinkNest w.1 w.2.1 w.2.2.1 w.2.2.2 ∈ lw_tbl := by decide +kernel
theorem yc_in : ∀ w ∈ qYC, Cond.castable w.1 w.2 ∈ lw_tbl := by decide +kernel
theorem nc_in : ∀ w ∈ qNC, Cond.not (.castable w.1 w.2) ∈ flatC (Jvm.Cond.and given_1 narrow_1) := by decide +kernel
theorem Cls.fr0 {D : va_G} {h h1 : qH} {x : Nat} {σ : sg} (H : Cls D h x σ) (h8 : gN σ 8 = 0) (o : ∀ q, x ≤ q → q < x + 118 → h1 q = h q) : Cls D h1 x σ := by
  obtain ⟨a1, a2, a3, a4, a5, ⟨qa, p1, p2, p3⟩, a7, a8, a9⟩ := H
  exact ⟨a1, a2.fr (fun q g1 g2 => o q (by omega) (by omega)), a3.fr (fun q g1 g2 => o q (by omega) (by omega)), a4.fr (fun q g1 g2 => o q (by omega) (by omega)), a5.fr (fun q g1 g2 => o q (by omega) (by omega)), ⟨qa, p1.fr (fun q g => by rcases g with rfl | ⟨i, hi, -⟩; exact o _ (by omega) (by omega); exact absurd hi (by omega)), p2, p3⟩, a7.fr (fun q g1 g2 => o q (by omega) (by omega)), a8.fr (fun q g1 g2 => o q (by omega) (by omega)), a9.fr (fun q g1 g2 => o q (by omega) (by omega))⟩
theorem qK_start {p : Program} {s : State} {m : MethodId} {meth : Method} {c : Code} {b L : Nat} {xs : Nat → Int32} (C0 : lw_At p s m meth c b L xs) : ∃ D, qK D s := by
  obtain ⟨hx, hb, hr, hml, hown, hts, hX, hbl, hlocks, hgv⟩ := C0
  have hA : ∀ w ∈ AW, w.before #[Value.ref b] s = true := fun w hw => hts w (List.mem_filter.mp hw).1
  have hs := flat_of_before _ hgv
  obtain ⟨c0, i0, k0⟩ := u_known (C := RX0) (T := TX0) (N := 3) (n := 3) hA hin_0 (hA _ (AW_m 141 (by decide +kernel) rfl))
  obtain ⟨c1, i1, k1⟩ := u_known (C := RX1) (T := TX1) (N := 3) (n := 3) hA hin_1 (hA _ (AW_m 461 (by decide +kernel) rfl))
  obtain ⟨c2, i2, k2⟩ := u_known (C := RX2) (T := TX2) (N := 3) (n := 3) hA hin_2 (hA _ (AW_m 426 (by decide +kernel) rfl))
  obtain ⟨c3, i3, k3⟩ := u_known (C := RX3) (T := TX3) (N := 5) (n := 5) hA hin_3 (hA _ (AW_m 193 (by decide +kernel) rfl))
  obtain ⟨c4, i4, k4⟩ := u_known (C := RX4) (T := TX4) (N := 3) (n := 3) hA hin_4 (hA _ (AW_m 478 (by decide +kernel) rfl))
  obtain ⟨c5, i5, k5⟩ := u_known (C := RX5) (T := TX5) (N := 3) (n := 3) hA hin_5 (hA _ (AW_m 470 (by decide +kernel) rfl))
  obtain ⟨c6, i6, k6⟩ := u_known (C := RX6) (T := TX6) (N := 3) (n := 3) hA hin_6 (hA _ (AW_m 451 (by decide +kernel) rfl))
  obtain ⟨c7, i7, k7⟩ := u_known (C := RX7) (T := TX7) (N := 8) (n := 8) hA hin_7 (hA _ (AW_m 101 (by decide +kernel) rfl))
  obtain ⟨c8, i8, k8⟩ := u_known (C := RX8) (T := TX8) (N := 2) (n := 2) hA hin_8 (hA _ (AW_m 87 (by decide +kernel) rfl))
  obtain ⟨c9, i9, k9⟩ := u_known (C := RX9) (T := TX9) (N := 3) (n := 3) hA hin_9 (hA _ (AW_m 65 (by decide +kernel) rfl))
  obtain ⟨c10, i10, k10⟩ := u_known (C := RX10) (T := TX10) (N := 8) (n := 8) hA hin_10 (hA _ (AW_m 158 (by decide +kernel) rfl))
  obtain ⟨c11, i11, k11⟩ := u_known (C := RX11) (T := TX11) (N := 8) (n := 8) hA hin_11 (hA _ (AW_m 57 (by decide +kernel) rfl))
  obtain ⟨c12, i12, k12⟩ := u_known (C := RX12) (T := TX12) (N := 36) (n := 36) hA hin_12 (hA _ (AW_m 692 (by decide +kernel) rfl))
  have w20 := hts (.arrayClass .int) (by decide +kernel)
  obtain ⟨a20, r20, f20⟩ := arr_prim w20
  have w21 := hts (.arrayClass .long) (by decide +kernel)
  obtain ⟨a21, r21, f21⟩ := arr_prim w21
  have w22 := hts (.arrayClass .byte) (by decide +kernel)
  obtain ⟨a22, r22, f22⟩ := arr_prim w22
  have w23 := hts (.arrayOver (.object "EarlyGauge$Keeper")) (by decide +kernel)
  obtain ⟨a23, r23, f23⟩ := arr_obj w23
  have w24 := hts (.arrayOver (.array .int)) (by decide +kernel)
  obtain ⟨a24, r24, f24⟩ := arr_arr w24
  have w25 := hts (.arrayOver (.array .long)) (by decide +kernel)
  obtain ⟨a25, r25, f25⟩ := arr_arr w25
  refine ⟨(fun k => match k with | 0 => c0 | 1 => c1 | 2 => c2 | 3 => c3 | 4 => c4 | 5 => c5 | 6 => c6 | 7 => c7 | 8 => c8 | 9 => c9 | 10 => c10 | 11 => c11 | 12 => c12 | 20 => a20 | 21 => a21 | 22 => a22 | 23 => a23 | 24 => a24 | 25 => a25 | _ => c0, fun k => match k with | 0 => i0 | 1 => i1 | 2 => i2 | 3 => i3 | 4 => i4 | 5 => i5 | 6 => i6 | 7 => i7 | 8 => i8 | 9 => i9 | 10 => i10 | 11 => i11 | 12 => i12 | _ => i0), ⟨fun k q hq => ?_, fun k q hq => ?_⟩, fun w hw => va_Nw.of rfl (hts _ (nf_in w hw)), fun w hw => va_Nw.of rfl (hts _ (nm_in w hw)), fun w hw => va_Nw.of rfl (hts _ (yc_in w hw)), fun w hw => va_Nc.of (hs _ (nc_in w hw)), va_AO.of w23, w24, w25⟩
  · match k, hq with
    | 0, hq => cases hq; exact k0
    | 1, hq => cases hq; exact k1
    | 2, hq => cases hq; exact k2
    | 3, hq => cases hq; exact k3
    | 4, hq => cases hq; exact k4
    | 5, hq => cases hq; exact k5
    | 6, hq => cases hq; exact k6
    | 7, hq => cases hq; exact k7
    | 8, hq => cases hq; exact k8
    | 9, hq => cases hq; exact k9
    | 10, hq => cases hq; exact k10
    | 11, hq => cases hq; exact k11
    | 12, hq => cases hq; exact k12
    | k + 13, hq => simp [vwCl] at hq
  · match k, hq with
    | 0, hq => cases hq; exact ⟨r20, f20⟩
    | 1, hq => cases hq; exact ⟨r21, f21⟩
    | 2, hq => cases hq; exact ⟨r22, f22⟩
    | 3, hq => cases hq; exact ⟨r23, f23⟩
    | 4, hq => cases hq; exact ⟨r24, f24⟩
    | 5, hq => cases hq; exact ⟨r25, f25⟩
    | k + 6, hq => simp [qT] at hq
set_option maxHeartbeats 4000000 in
set_option maxRecDepth 100000 in
theorem law_new {X : qX} {D : va_G} {bb b x : Nat} {l : Launch} (C : qC X D bb l room_1 cL_law RL 4) (kk : ∀ h, Cls D h x sg0 → MdlAt D h (x + 118) sg0 → qG X 134 642 (x + 134) h 18 [(3, .int (nI 0)), (2, .ref (x + 118)), (1, .ref x), (0, .ref b)] []) : qG X 0 0 x (fun _ => none) 0 [(0, .ref b)] [] := by
  refine g_new C (ci := 11) tyX11 tyX11_ok hin_11 (fs := [.null, .null, .null, .null, .null, .null, .null, .int (0)]) ⟨(AW_m 56 (by decide +kernel) rfl), (AW_m 57 (by decide +kernel) rfl), (AW_m 42 (by decide +kernel) rfl)⟩ rfl (fun j hj => match j, hj with | 0, _ => rfl | 1, _ => rfl | 2, _ => rfl | 3, _ => rfl | 4, _ => rfl | 5, _ => rfl | 6, _ => rfl | 7, _ => rfl | (m + 8), h => absurd h (by omega)) ⟨Nat.le_of_ble_eq_true rfl, Nat.le_of_ble_eq_true rfl⟩ dL_law_0 (pc' := 3) rfl (fun h1 e2 o3 => ?_)
  have hN3 : h1 (x) = some (.inr (11, [.null, .null, .null, .null, .null, .null, .null, .int (0)])) := e2
  show qG X 1 8 (x + 1) h1 3 [(0, .ref (b))] [.ref (x)]
  refine g_dup C rfl dL_law_3 rfl ?_
  refine g_callIc C (As := []) (k_X11_init l D bb hN3) hw_L_9 (by decide) rfl rfl (Nat.le_of_ble_eq_true rfl) ⟨Nat.le_of_ble_eq_true rfl, Nat.le_of_ble_eq_true rfl⟩ dL_law_4 (pc' := 7) rfl ?_
  rintro h4 ⟨hC, fr⟩
  show qG X 118 493 (x + 118) h4 7 [(0, .ref (b))] [.ref (x)]
  refine g_astore_n C ([(1, .ref (x)), (0, .ref (b))]) dL_law_7 rfl (by decide) rfl rfl ?_
  refine g_new C (ci := 12) tyX12 tyX12_ok hin_12 (fs := [.int (0), .int (0), .null, .int (0), .int (0), .int (0), .int (0), .null, .int (0), .null, .null, .null, .null, .int (0), .null, .null, .int (0), .null, .long (0), .int (0), .int (0), .null, .null, .int (0), .int (0), .int (0), .int (0), .int (0), .int (0), .int (0), .int (0), .null, .null, .null, .null, .long (0)]) ⟨(AW_m 691 (by decide +kernel) rfl), (AW_m 692 (by decide +kernel) rfl), (AW_m 49 (by decide +kernel) rfl)⟩ rfl (fun j hj => match j, hj with | 0, _ => rfl | 1, _ => rfl | 2, _ => rfl | 3, _ => rfl | 4, _ => rfl | 5, _ => rfl | 6, _ => rfl | 7, _ => rfl | 8, _ => rfl | 9, _ => rfl | 10, _ => rfl | 11, _ => rfl | 12, _ => rfl | 13, _ => rfl | 14, _ => rfl | 15, _ => rfl | 16, _ => rfl | 17, _ => rfl | 18, _ => rfl | 19, _ => rfl | 20, _ => rfl | 21, _ => rfl | 22, _ => rfl | 23, _ => rfl | 24, _ => rfl | 25, _ => rfl | 26, _ => rfl | 27, _ => rfl | 28, _ => rfl | 29, _ => rfl | 30, _ => rfl | 31, _ => rfl | 32, _ => rfl | 33, _ => rfl | 34, _ => rfl | 35, _ => rfl | (m + 36), h => absurd h (by omega)) ⟨Nat.le_of_ble_eq_true rfl, Nat.le_of_ble_eq_true rfl⟩ dL_law_8 (pc' := 11) rfl (fun h5 e6 o7 => ?_)
  have hN7 : h5 (x + 118) = some (.inr (12, [.int (0), .int (0), .null, .int (0), .int (0), .int (0), .int (0), .null, .int (0), .null, .null, .null, .null, .int (0), .null, .null, .int (0), .null, .long (0), .int (0), .int (0), .null, .null, .int (0), .int (0), .int (0), .int (0), .int (0), .int (0), .int (0), .int (0), .null, .null, .null, .null, .long (0)])) := e6
  have hC : Cls D h5 x sg0 := hC.fr0 rfl (fun q g1 g2 => o7 q (by omega))
  show qG X 119 529 (x + 119) h5 11 [(1, .ref (x)), (0, .ref (b))] [.ref (x + 118)]
  refine g_dup C rfl dL_law_11 rfl ?_
  refine g_callIc C (As := []) (k_X12_init l D bb hN7) hw_L_12 (by decide) rfl rfl (Nat.le_of_ble_eq_true rfl) ⟨Nat.le_of_ble_eq_true rfl, Nat.le_of_ble_eq_true rfl⟩ dL_law_12 (pc' := 15) rfl ?_
  rintro h8 ⟨hMd, fr⟩
  have hC : Cls D h8 x sg0 := hC.fr0 rfl (fun q g1 g2 => fr q (by omega))
  show qG X 134 642 (x + 134) h8 15 [(1, .ref (x)), (0, .ref (b))] [.ref (x + 118)]
  refine g_astore_n C ([(2, .ref (x + 118)), (1, .ref (x)), (0, .ref (b))]) dL_law_15 rfl (by decide) rfl rfl ?_
  refine g_iconst C (v := 0) dL_law_16 (by decide) rfl ?_
  refine g_topi (y := nI 0) rfl ?_
  refine g_istore_n C ([(3, .int (nI (0))), (2, .ref (x + 118)), (1, .ref (x)), (0, .ref (b))]) dL_law_17 rfl (by decide) rfl rfl ?_
  exact kk h8 hC hMd
set_option maxHeartbeats 4000000 in
set_option maxRecDepth 100000 in
theorem law_loop {D : va_G} {p : Program} {l : Launch} {e : Env} {s : State} {m : MethodId} {b : Nat} {below : List Frame} {meth : Method} {c : Code} {L : Nat} {xs : Nat → Int32} (hL : L ≤ 2048) (C0 : lw_At p s m meth c b L xs) (hK : qK D s) {x mm : Nat} (hmm : mm = x + 118) : ∀ (N i k n z : Nat) (h : qH) (σ : sg), L + 5 ≤ i + N → i ≤ L → Cls D h x σ → MdlAt D h mm σ → GoodT σ → x + 134 ≤ z → k ≤ 200 + i → n ≤ 1000 + i → gN σ 1 ≤ i → qG (lX D p l e s m b below meth c) k n z h 18 [(3, .int (nI i)), (2, .ref mm), (1, .ref x), (0, .ref b)] [] := by
  have C := lC (l := l) (e := e) (below := below) C0 hK
  intro N
  induction N with
  | zero => intro i k n z h σ h1 h2; exact absurd h1 (by omega)
  | succ N ih =>
    intro i k n z h σ hN hiL hC hMd hG hz hk hn h1i
    refine g_iload_n C 0 dL_law_18 rfl rfl rfl ?_
    refine g_aload_n C 3 dL_law_19 rfl rfl rfl ?_
    refine l_slen C0 dL_law_20 (pc' := 21) rfl ?_
    refine g_iconst C (v := 4) dL_law_21 (by decide) rfl ?_
    refine g_isub C dL_law_22 rfl ?_
    refine g_topi (y := nI L - 4) (rfl) ?_
    refine g_icmp_gt C dL_law_23 (tgt := 752) (by decide) (pc' := 26) rfl ?_ ?_
    · intro c23
      refine g_iconst C (v := 1) dL_law_752 (by decide) rfl ?_
      exact l_ret C0 (by omega) (by omega) dL_law_753
    · intro c23
      have hi4 : i + 4 ≤ L := by rcases Nat.lt_or_ge L (i + 4) with q | q; exact absurd ((l_end hL (by omega)).mpr q) c23; exact q
      refine g_aload_n C 3 dL_law_26 rfl rfl rfl ?_
      refine g_iload_n C 0 dL_law_27 rfl rfl rfl ?_
      refine l_sld C0 (i := i) (by omega) hL dL_law_28 (pc' := 29) rfl ?_
      refine g_bipush C (v := 31) dL_law_29 (by decide) rfl ?_
      refine g_iand C dL_law_31 rfl ?_
      refine g_topi (y := xs i &&& 31) (rfl) ?_
      generalize xs i &&& 31 = w
      have back : ∀ (σ1 : sg) (h1 : qH) (z1 k1 n1 : Nat), Cls D h1 x σ1 → MdlAt D h1 mm σ1 → GoodT σ1 → x + 134 ≤ z1 → k1 ≤ 200 + (i + 4) → n1 ≤ 1000 + (i + 4) → gN σ1 1 ≤ i + 4 → qG (lX D p l e s m b below meth c) k1 n1 z1 h1 746 [(3, .int (nI i)), (2, .ref mm), (1, .ref x), (0, .ref b)] [] := by
        intro σ1 h1 z1 k1 n1 hC hMd hG hz hk hn h1i
        refine g_iinc C (v := nI (i + 4)) 0 ([(3, .int (nI (i + 4))), (2, .ref mm), (1, .ref x), (0, .ref b)]) dL_law_746 rfl (nI_add i 4) (by decide) rfl rfl ?_
        refine g_goto C dL_law_749 (tgt := 18) (by decide) ?_
        exact ih (i + 4) k1 n1 z1 h1 σ1 (by omega) (by omega) hC hMd hG hz (by omega) (by omega) h1i
      by_cases q0 : w = 0
      · refine g_tableIn C dL_law_32 (off := 116) (tgt := 148) (by rw [q0]; decide) (by rw [q0]; decide) (by rw [q0]; decide) (by decide) ?_
        exact lw_letter hL C0 hK hi4 hmm hC hMd hG hz hk hn h1i back
      by_cases q1 : w = 1
      · refine g_tableIn C dL_law_32 (off := 139) (tgt := 171) (by rw [q1]; decide) (by rw [q1]; decide) (by rw [q1]; decide) (by decide) ?_
        exact lw_blank hL C0 hK hi4 hmm hC hMd hG hz hk hn h1i back
      by_cases q2 : w = 2
      · refine g_tableIn C dL_law_32 (off := 152) (tgt := 184) (by rw [q2]; decide) (by rw [q2]; decide) (by rw [q2]; decide) (by decide) ?_
        exact lw_fault hL C0 hK hi4 hmm hC hMd hG hz hk hn h1i back
      by_cases q3 : w = 3
      · refine g_tableIn C dL_law_32 (off := 165) (tgt := 197) (by rw [q3]; decide) (by rw [q3]; decide) (by rw [q3]; decide) (by decide) ?_
        exact lw_station hL C0 hK hi4 hmm hC hMd hG hz hk hn h1i back
      by_cases q4 : w = 4
      · refine g_tableIn C dL_law_32 (off := 178) (tgt := 210) (by rw [q4]; decide) (by rw [q4]; decide) (by rw [q4]; decide) (by decide) ?_
        exact lw_follows hL C0 hK hi4 hmm hC hMd hG hz hk hn h1i back
      by_cases q5 : w = 5
      · refine g_tableIn C dL_law_32 (off := 211) (tgt := 243) (by rw [q5]; decide) (by rw [q5]; decide) (by rw [q5]; decide) (by decide) ?_
        exact lw_reading hL C0 hK hi4 hmm hC hMd hG hz hk hn h1i back
      by_cases q6 : w = 6
      · refine g_tableIn C dL_law_32 (off := 234) (tgt := 266) (by rw [q6]; decide) (by rw [q6]; decide) (by rw [q6]; decide) (by decide) ?_
        exact lw_told hL C0 hK hi4 hmm hC hMd hG hz hk hn h1i back
      by_cases q7 : w = 7
      · refine g_tableIn C dL_law_32 (off := 257) (tgt := 289) (by rw [q7]; decide) (by rw [q7]; decide) (by rw [q7]; decide) (by decide) ?_
        exact lw_day hL C0 hK hi4 hmm hC hMd hG hz hk hn h1i back
      by_cases q8 : w = 8
      · refine g_tableIn C dL_law_32 (off := 280) (tgt := 312) (by rw [q8]; decide) (by rw [q8]; decide) (by rw [q8]; decide) (by decide) ?_
        exact lw_person hL C0 hK hi4 hmm hC hMd hG hz hk hn h1i back
      by_cases q9 : w = 9
      · refine g_tableIn C dL_law_32 (off := 323) (tgt := 355) (by rw [q9]; decide) (by rw [q9]; decide) (by rw [q9]; decide) (by decide) ?_
        exact lw_about hL C0 hK hi4 hmm hC hMd hG hz hk hn h1i back
      by_cases q10 : w = 10
      · refine g_tableIn C dL_law_32 (off := 356) (tgt := 388) (by rw [q10]; decide) (by rw [q10]; decide) (by rw [q10]; decide) (by decide) ?_
        exact lw_as hL C0 hK hi4 hmm hC hMd hG hz hk hn h1i back
      by_cases q11 : w = 11
      · refine g_tableIn C dL_law_32 (off := 389) (tgt := 421) (by rw [q11]; decide) (by rw [q11]; decide) (by rw [q11]; decide) (by decide) ?_
        exact lw_likely hL C0 hK hi4 hmm hC hMd hG hz hk hn h1i back
      by_cases q12 : w = 12
      · refine g_tableIn C dL_law_32 (off := 433) (tgt := 465) (by rw [q12]; decide) (by rw [q12]; decide) (by rw [q12]; decide) (by decide) ?_
        exact lw_likeliest hL C0 hK hi4 hmm hC hMd hG hz hk hn h1i back
      by_cases q13 : w = 13
      · refine g_tableIn C dL_law_32 (off := 446) (tgt := 478) (by rw [q13]; decide) (by rw [q13]; decide) (by rw [q13]; decide) (by decide) ?_
        exact lw_ways hL C0 hK hi4 hmm hC hMd hG hz hk hn h1i back
      by_cases q14 : w = 14
      · refine g_tableIn C dL_law_32 (off := 459) (tgt := 491) (by rw [q14]; decide) (by rw [q14]; decide) (by rw [q14]; decide) (by decide) ?_
        exact lw_sure hL C0 hK hi4 hmm hC hMd hG hz hk hn h1i back
      by_cases q15 : w = 15
      · refine g_tableIn C dL_law_32 (off := 482) (tgt := 514) (by rw [q15]; decide) (by rw [q15]; decide) (by rw [q15]; decide) (by decide) ?_
        exact lw_look hL C0 hK hi4 hmm hC hMd hG hz hk hn h1i back
      by_cases q16 : w = 16
      · refine g_tableIn C dL_law_32 (off := 526) (tgt := 558) (by rw [q16]; decide) (by rw [q16]; decide) (by rw [q16]; decide) (by decide) ?_
        exact lw_book hL C0 hK hi4 hmm hC hMd hG hz hk hn h1i back
      by_cases q17 : w = 17
      · refine g_tableIn C dL_law_32 (off := 559) (tgt := 591) (by rw [q17]; decide) (by rw [q17]; decide) (by rw [q17]; decide) (by decide) ?_
        exact lw_forget hL C0 hK hi4 hmm hC hMd hG hz hk hn h1i back
      by_cases q18 : w = 18
      · refine g_tableIn C dL_law_32 (off := 572) (tgt := 604) (by rw [q18]; decide) (by rw [q18]; decide) (by rw [q18]; decide) (by decide) ?_
        exact lw_wrong hL C0 hK hi4 hmm hC hMd hG hz hk hn h1i back
      by_cases q19 : w = 19
      · refine g_tableIn C dL_law_32 (off := 595) (tgt := 627) (by rw [q19]; decide) (by rw [q19]; decide) (by rw [q19]; decide) (by decide) ?_
        exact lw_earliest hL C0 hK hi4 hmm hC hMd hG hz hk hn h1i back
      by_cases q20 : w = 20
      · refine g_tableIn C dL_law_32 (off := 608) (tgt := 640) (by rw [q20]; decide) (by rw [q20]; decide) (by rw [q20]; decide) (by decide) ?_
        exact lw_days hL C0 hK hi4 hmm hC hMd hG hz hk hn h1i back
      by_cases q21 : w = 21
      · refine g_tableIn C dL_law_32 (off := 651) (tgt := 683) (by rw [q21]; decide) (by rw [q21]; decide) (by rw [q21]; decide) (by decide) ?_
        exact lw_image hL C0 hK hi4 hmm hC hMd hG hz hk hn h1i back
      by_cases q22 : w = 22
      · refine g_tableIn C dL_law_32 (off := 664) (tgt := 696) (by rw [q22]; decide) (by rw [q22]; decide) (by rw [q22]; decide) (by decide) ?_
        exact lw_restore hL C0 hK hi4 hmm hC hMd hG hz hk hn h1i back
      by_cases q23 : w = 23
      · refine g_tableIn C dL_law_32 (off := 677) (tgt := 709) (by rw [q23]; decide) (by rw [q23]; decide) (by rw [q23]; decide) (by decide) ?_
        exact lw_count hL C0 hK hi4 hmm hC hMd hG hz hk hn h1i back
      by_cases q24 : w = 24
      · refine g_tableIn C dL_law_32 (off := 700) (tgt := 732) (by rw [q24]; decide) (by rw [q24]; decide) (by rw [q24]; decide) (by decide) ?_
        exact lw_digest hL C0 hK hi4 hmm hC hMd hG hz hk hn h1i back
      refine g_tableOut C dL_law_32 (tgt := 746) (swl w (fun j hj => ?_)) (by decide) (back σ h z k n hC hMd hG hz (by omega) (by omega) (by omega))
      rcases (show j = 0 ∨ j = 1 ∨ j = 2 ∨ j = 3 ∨ j = 4 ∨ j = 5 ∨ j = 6 ∨ j = 7 ∨ j = 8 ∨ j = 9 ∨ j = 10 ∨ j = 11 ∨ j = 12 ∨ j = 13 ∨ j = 14 ∨ j = 15 ∨ j = 16 ∨ j = 17 ∨ j = 18 ∨ j = 19 ∨ j = 20 ∨ j = 21 ∨ j = 22 ∨ j = 23 ∨ j = 24 by omega) with rfl | rfl | rfl | rfl | rfl | rfl | rfl | rfl | rfl | rfl | rfl | rfl | rfl | rfl | rfl | rfl | rfl | rfl | rfl | rfl | rfl | rfl | rfl | rfl | rfl
      · exact q0
      · exact q1
      · exact q2
      · exact q3
      · exact q4
      · exact q5
      · exact q6
      · exact q7
      · exact q8
      · exact q9
      · exact q10
      · exact q11
      · exact q12
      · exact q13
      · exact q14
      · exact q15
      · exact q16
      · exact q17
      · exact q18
      · exact q19
      · exact q20
      · exact q21
      · exact q22
      · exact q23
      · exact q24

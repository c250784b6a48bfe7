set_option maxHeartbeats 4000000 in
set_option maxRecDepth 100000 in
theorem lw_letter {D : va_G} {p : Program} {l : Launch} {e : Env} {s : State} {m : MethodId} {b : Nat} {below : List Frame} {meth : Method} {c : Code} {L : Nat} {xs : Nat → Int32} (hL : L ≤ 2048) (C0 : lw_At p s m meth c b L xs) (hK : qK D s) {k n z i x mm : Nat} {h : qH} {σ : sg} (hi : i + 4 ≤ L) (hmm : mm = x + 118) (hC : Cls D h x σ) (hMd : MdlAt D h mm σ) (hG : GoodT σ) (hz : x + 134 ≤ z) (hk : k ≤ 200 + i) (hn : n ≤ 1000 + i) (h1i : gN σ 1 ≤ i)
    (back : ∀ (σ1 : sg) (h1 : qH) (z1 k1 n1 : Nat), Cls D h1 x σ1 → MdlAt D h1 mm σ1 → GoodT σ1 → x + 134 ≤ z1 → k1 ≤ 200 + (i + 4) → n1 ≤ 1000 + (i + 4) → gN σ1 1 ≤ i + 4 → qG (lX D p l e s m b below meth c) k1 n1 z1 h1 746 [(3, .int (nI i)), (2, .ref mm), (1, .ref x), (0, .ref b)] []) : qG (lX D p l e s m b below meth c) k n z h 148 [(3, .int (nI i)), (2, .ref mm), (1, .ref x), (0, .ref b)] [] := by
  have C := lC (l := l) (e := e) (below := below) C0 hK
  have hI := hC.1
  have hkR : k ≤ room_1.cells := Nat.le_trans (show k ≤ 653995 by omega) (Nat.le_refl _)
  have hnR : n ≤ room_1.slots := Nat.le_trans (show n ≤ 7140263 by omega) (Nat.le_refl _)
  refine g_aload_n C 2 dL_law_148 rfl rfl rfl ?_
  refine g_aload_n C 3 dL_law_149 rfl rfl rfl ?_
  refine g_iload_n C 0 dL_law_150 rfl rfl rfl ?_
  refine g_iconst C (v := 1) dL_law_151 (by decide) rfl ?_
  refine g_iadd C dL_law_152 rfl ?_
  refine g_topi (y := nI (i + 1)) (nI_add i 1) ?_
  refine l_sld C0 (i := i + 1) (by omega) hL dL_law_153 (pc' := 154) rfl ?_
  refine g_callVi C (As := [.int (xs (i + 1))]) (q := (RX11, TX11, 8)) (k_X11_letter l D s.heap.size z hC  (xs (i + 1))) hw_L_13 (hC.2.1) rfl (by decide) rfl rfl (Nat.le_of_ble_eq_true rfl) ⟨hkR, hnR⟩ dL_law_154 (pc' := 157) rfl ?_
  rintro r1 h1 ⟨⟨er1, hC⟩, fr1⟩
  replace hMd := hMd.fr (fun q g1 g2 => fr1 q (by omega) (by omega))
  obtain ⟨s18, s19, s20, s23, s24, s35, f21, f22, hM, hR⟩ := hMd
  refine g_aload_n C 1 dL_law_157 rfl rfl rfl ?_
  refine g_aload_n C 3 dL_law_158 rfl rfl rfl ?_
  refine g_iload_n C 0 dL_law_159 rfl rfl rfl ?_
  refine g_iconst C (v := 1) dL_law_160 (by decide) rfl ?_
  refine g_iadd C dL_law_161 rfl ?_
  refine g_topi (y := nI (i + 1)) (nI_add i 1) ?_
  refine l_sld C0 (i := i + 1) (by omega) hL dL_law_162 (pc' := 163) rfl ?_
  refine g_callVi C (As := [.int (xs (i + 1))]) (q := (RX12, TX12, 36)) (k_X12_letter l D s.heap.size z hM hR (hI.2.2.2.2.2.2.2.1) (xs (i + 1))) hw_L_17 (hM) rfl (by decide) rfl rfl (Nat.le_of_ble_eq_true rfl) ⟨hkR, hnR⟩ dL_law_163 (pc' := 166) rfl ?_
  rintro r2 h2 ⟨⟨er2, hMd⟩, fr2⟩
  replace hC := hC.fr (fun q g => fr2 q (by omega))
  have heq : r1 = r2 := er1.trans er2.symm
  refine g_icmp_eq C dL_law_166 (tgt := 746) (by decide) (pc' := 169) rfl (fun _ => ?_) (fun q => absurd heq q)
  have hN := n1_letter σ (xs (i + 1))
  have hG2 : GoodT (oLetter σ (xs (i + 1))).2 := good_letter hG (xs (i + 1))
  exact back _ h2 z k n hC hMd hG2 hz (by omega) (by omega) (by omega)
set_option maxHeartbeats 4000000 in
set_option maxRecDepth 100000 in
theorem lw_blank {D : va_G} {p : Program} {l : Launch} {e : Env} {s : State} {m : MethodId} {b : Nat} {below : List Frame} {meth : Method} {c : Code} {L : Nat} {xs : Nat → Int32} (hL : L ≤ 2048) (C0 : lw_At p s m meth c b L xs) (hK : qK D s) {k n z i x mm : Nat} {h : qH} {σ : sg} (hi : i + 4 ≤ L) (hmm : mm = x + 118) (hC : Cls D h x σ) (hMd : MdlAt D h mm σ) (hG : GoodT σ) (hz : x + 134 ≤ z) (hk : k ≤ 200 + i) (hn : n ≤ 1000 + i) (h1i : gN σ 1 ≤ i)
    (back : ∀ (σ1 : sg) (h1 : qH) (z1 k1 n1 : Nat), Cls D h1 x σ1 → MdlAt D h1 mm σ1 → GoodT σ1 → x + 134 ≤ z1 → k1 ≤ 200 + (i + 4) → n1 ≤ 1000 + (i + 4) → gN σ1 1 ≤ i + 4 → qG (lX D p l e s m b below meth c) k1 n1 z1 h1 746 [(3, .int (nI i)), (2, .ref mm), (1, .ref x), (0, .ref b)] []) : qG (lX D p l e s m b below meth c) k n z h 171 [(3, .int (nI i)), (2, .ref mm), (1, .ref x), (0, .ref b)] [] := by
  have C := lC (l := l) (e := e) (below := below) C0 hK
  have hI := hC.1
  have hkR : k ≤ room_1.cells := Nat.le_trans (show k ≤ 653995 by omega) (Nat.le_refl _)
  have hnR : n ≤ room_1.slots := Nat.le_trans (show n ≤ 7140263 by omega) (Nat.le_refl _)
  refine g_aload_n C 2 dL_law_171 rfl rfl rfl ?_
  refine g_callVi C (As := []) (q := (RX11, TX11, 8)) (k_X11_blank l D s.heap.size z hC  ) hw_L_18 (hC.2.1) rfl (by decide) rfl rfl (Nat.le_of_ble_eq_true rfl) ⟨hkR, hnR⟩ dL_law_172 (pc' := 175) rfl ?_
  rintro r1 h1 ⟨⟨er1, hC⟩, fr1⟩
  replace hMd := hMd.fr (fun q g1 g2 => fr1 q (by omega) (by omega))
  obtain ⟨s18, s19, s20, s23, s24, s35, f21, f22, hM, hR⟩ := hMd
  refine g_aload_n C 1 dL_law_175 rfl rfl rfl ?_
  refine g_callVi C (As := []) (q := (RX12, TX12, 36)) (k_X12_blank l D s.heap.size z hM hR  ) hw_L_22 (hM) rfl (by decide) rfl rfl (Nat.le_of_ble_eq_true rfl) ⟨hkR, hnR⟩ dL_law_176 (pc' := 179) rfl ?_
  rintro r2 h2 ⟨⟨er2, hMd⟩, fr2⟩
  replace hC := hC.fr (fun q g => fr2 q (by omega))
  have heq : r1 = r2 := er1.trans er2.symm
  refine g_icmp_eq C dL_law_179 (tgt := 746) (by decide) (pc' := 182) rfl (fun _ => ?_) (fun q => absurd heq q)
  have hN := (show gN (oBlank σ).2 1 = gN σ 1 from rfl)
  have hG2 : GoodT (oBlank σ).2 := good_blank hG
  exact back _ h2 z k n hC hMd hG2 hz (by omega) (by omega) (by omega)
set_option maxHeartbeats 4000000 in
set_option maxRecDepth 100000 in
theorem lw_forget {D : va_G} {p : Program} {l : Launch} {e : Env} {s : State} {m : MethodId} {b : Nat} {below : List Frame} {meth : Method} {c : Code} {L : Nat} {xs : Nat → Int32} (hL : L ≤ 2048) (C0 : lw_At p s m meth c b L xs) (hK : qK D s) {k n z i x mm : Nat} {h : qH} {σ : sg} (hi : i + 4 ≤ L) (hmm : mm = x + 118) (hC : Cls D h x σ) (hMd : MdlAt D h mm σ) (hG : GoodT σ) (hz : x + 134 ≤ z) (hk : k ≤ 200 + i) (hn : n ≤ 1000 + i) (h1i : gN σ 1 ≤ i)
    (back : ∀ (σ1 : sg) (h1 : qH) (z1 k1 n1 : Nat), Cls D h1 x σ1 → MdlAt D h1 mm σ1 → GoodT σ1 → x + 134 ≤ z1 → k1 ≤ 200 + (i + 4) → n1 ≤ 1000 + (i + 4) → gN σ1 1 ≤ i + 4 → qG (lX D p l e s m b below meth c) k1 n1 z1 h1 746 [(3, .int (nI i)), (2, .ref mm), (1, .ref x), (0, .ref b)] []) : qG (lX D p l e s m b below meth c) k n z h 591 [(3, .int (nI i)), (2, .ref mm), (1, .ref x), (0, .ref b)] [] := by
  have C := lC (l := l) (e := e) (below := below) C0 hK
  have hI := hC.1
  have hkR : k ≤ room_1.cells := Nat.le_trans (show k ≤ 653995 by omega) (Nat.le_refl _)
  have hnR : n ≤ room_1.slots := Nat.le_trans (show n ≤ 7140263 by omega) (Nat.le_refl _)
  refine g_aload_n C 2 dL_law_591 rfl rfl rfl ?_
  refine g_callVi C (As := []) (q := (RX11, TX11, 8)) (k_X11_forget l D s.heap.size z hC  ) hw_L_86 (hC.2.1) rfl (by decide) rfl rfl (Nat.le_of_ble_eq_true rfl) ⟨hkR, hnR⟩ dL_law_592 (pc' := 595) rfl ?_
  rintro r1 h1 ⟨⟨er1, hC⟩, fr1⟩
  replace hMd := hMd.fr (fun q g1 g2 => fr1 q (by omega) (by omega))
  obtain ⟨s18, s19, s20, s23, s24, s35, f21, f22, hM, hR⟩ := hMd
  refine g_aload_n C 1 dL_law_595 rfl rfl rfl ?_
  refine g_callVi C (As := []) (q := (RX12, TX12, 36)) (k_X12_forget l D s.heap.size z hM hR  ) hw_L_89 (hM) rfl (by decide) rfl rfl (Nat.le_of_ble_eq_true rfl) ⟨hkR, hnR⟩ dL_law_596 (pc' := 599) rfl ?_
  rintro r2 h2 ⟨⟨er2, hMd⟩, fr2⟩
  replace hC := hC.fr (fun q g => fr2 q (by omega))
  have heq : r1 = r2 := er1.trans er2.symm
  refine g_icmp_eq C dL_law_599 (tgt := 746) (by decide) (pc' := 602) rfl (fun _ => ?_) (fun q => absurd heq q)
  have hN := (show gN (oForget σ).2 1 = gN σ 1 from rfl)
  have hG2 : GoodT (oForget σ).2 := good_forget hG
  exact back _ h2 z k n hC hMd hG2 hz (by omega) (by omega) (by omega)
set_option maxHeartbeats 4000000 in
set_option maxRecDepth 100000 in
theorem lw_book {D : va_G} {p : Program} {l : Launch} {e : Env} {s : State} {m : MethodId} {b : Nat} {below : List Frame} {meth : Method} {c : Code} {L : Nat} {xs : Nat → Int32} (hL : L ≤ 2048) (C0 : lw_At p s m meth c b L xs) (hK : qK D s) {k n z i x mm : Nat} {h : qH} {σ : sg} (hi : i + 4 ≤ L) (hmm : mm = x + 118) (hC : Cls D h x σ) (hMd : MdlAt D h mm σ) (hG : GoodT σ) (hz : x + 134 ≤ z) (hk : k ≤ 200 + i) (hn : n ≤ 1000 + i) (h1i : gN σ 1 ≤ i)
    (back : ∀ (σ1 : sg) (h1 : qH) (z1 k1 n1 : Nat), Cls D h1 x σ1 → MdlAt D h1 mm σ1 → GoodT σ1 → x + 134 ≤ z1 → k1 ≤ 200 + (i + 4) → n1 ≤ 1000 + (i + 4) → gN σ1 1 ≤ i + 4 → qG (lX D p l e s m b below meth c) k1 n1 z1 h1 746 [(3, .int (nI i)), (2, .ref mm), (1, .ref x), (0, .ref b)] []) : qG (lX D p l e s m b below meth c) k n z h 558 [(3, .int (nI i)), (2, .ref mm), (1, .ref x), (0, .ref b)] [] := by
  have C := lC (l := l) (e := e) (below := below) C0 hK
  have hI := hC.1
  have hkR : k ≤ room_1.cells := Nat.le_trans (show k ≤ 653995 by omega) (Nat.le_refl _)
  have hnR : n ≤ room_1.slots := Nat.le_trans (show n ≤ 7140263 by omega) (Nat.le_refl _)
  refine g_aload_n C 2 dL_law_558 rfl rfl rfl ?_
  refine g_aload_n C 3 dL_law_559 rfl rfl rfl ?_
  refine g_iload_n C 0 dL_law_560 rfl rfl rfl ?_
  refine g_iconst C (v := 1) dL_law_561 (by decide) rfl ?_
  refine g_iadd C dL_law_562 rfl ?_
  refine g_topi (y := nI (i + 1)) (nI_add i 1) ?_
  refine l_sld C0 (i := i + 1) (by omega) hL dL_law_563 (pc' := 564) rfl ?_
  refine g_aload_n C 3 dL_law_564 rfl rfl rfl ?_
  refine g_iload_n C 0 dL_law_565 rfl rfl rfl ?_
  refine g_iconst C (v := 2) dL_law_566 (by decide) rfl ?_
  refine g_iadd C dL_law_567 rfl ?_
  refine g_topi (y := nI (i + 2)) (nI_add i 2) ?_
  refine l_sld C0 (i := i + 2) (by omega) hL dL_law_568 (pc' := 569) rfl ?_
  refine g_callVi C (As := [.int (xs (i + 1)), .int (xs (i + 2))]) (q := (RX11, TX11, 8)) (k_X11_book l D s.heap.size z hC  (xs (i + 1)) (xs (i + 2))) hw_L_82 (hC.2.1) rfl (by decide) rfl rfl (Nat.le_of_ble_eq_true rfl) ⟨hkR, hnR⟩ dL_law_569 (pc' := 572) rfl ?_
  rintro r1 h1 ⟨⟨er1, hC⟩, fr1⟩
  replace hMd := hMd.fr (fun q g1 g2 => fr1 q (by omega) (by omega))
  obtain ⟨s18, s19, s20, s23, s24, s35, f21, f22, hM, hR⟩ := hMd
  refine g_aload_n C 1 dL_law_572 rfl rfl rfl ?_
  refine g_aload_n C 3 dL_law_573 rfl rfl rfl ?_
  refine g_iload_n C 0 dL_law_574 rfl rfl rfl ?_
  refine g_iconst C (v := 1) dL_law_575 (by decide) rfl ?_
  refine g_iadd C dL_law_576 rfl ?_
  refine g_topi (y := nI (i + 1)) (nI_add i 1) ?_
  refine l_sld C0 (i := i + 1) (by omega) hL dL_law_577 (pc' := 578) rfl ?_
  refine g_aload_n C 3 dL_law_578 rfl rfl rfl ?_
  refine g_iload_n C 0 dL_law_579 rfl rfl rfl ?_
  refine g_iconst C (v := 2) dL_law_580 (by decide) rfl ?_
  refine g_iadd C dL_law_581 rfl ?_
  refine g_topi (y := nI (i + 2)) (nI_add i 2) ?_
  refine l_sld C0 (i := i + 2) (by omega) hL dL_law_582 (pc' := 583) rfl ?_
  refine g_callVi C (As := [.int (xs (i + 1)), .int (xs (i + 2))]) (q := (RX12, TX12, 36)) (k_X12_book l D s.heap.size z hM hR (hI.2.2.2.2.2.2.1) (xs (i + 1)) (xs (i + 2))) hw_L_85 (hM) rfl (by decide) rfl rfl (Nat.le_of_ble_eq_true rfl) ⟨hkR, hnR⟩ dL_law_583 (pc' := 586) rfl ?_
  rintro r2 h2 ⟨⟨er2, hMd⟩, fr2⟩
  replace hC := hC.fr (fun q g => fr2 q (by omega))
  have heq : r1 = r2 := er1.trans er2.symm
  refine g_icmp_eq C dL_law_586 (tgt := 746) (by decide) (pc' := 589) rfl (fun _ => ?_) (fun q => absurd heq q)
  have hN := n1_book σ (xs (i + 1)) (xs (i + 2))
  have hG2 : GoodT (oBook σ (xs (i + 1)) (xs (i + 2))).2 := good_book hG (xs (i + 1)) (xs (i + 2))
  exact back _ h2 z k n hC hMd hG2 hz (by omega) (by omega) (by omega)
set_option maxHeartbeats 4000000 in
set_option maxRecDepth 100000 in
theorem lw_person {D : va_G} {p : Program} {l : Launch} {e : Env} {s : State} {m : MethodId} {b : Nat} {below : List Frame} {meth : Method} {c : Code} {L : Nat} {xs : Nat → Int32} (hL : L ≤ 2048) (C0 : lw_At p s m meth c b L xs) (hK : qK D s) {k n z i x mm : Nat} {h : qH} {σ : sg} (hi : i + 4 ≤ L) (hmm : mm = x + 118) (hC : Cls D h x σ) (hMd : MdlAt D h mm σ) (hG : GoodT σ) (hz : x + 134 ≤ z) (hk : k ≤ 200 + i) (hn : n ≤ 1000 + i) (h1i : gN σ 1 ≤ i)
    (back : ∀ (σ1 : sg) (h1 : qH) (z1 k1 n1 : Nat), Cls D h1 x σ1 → MdlAt D h1 mm σ1 → GoodT σ1 → x + 134 ≤ z1 → k1 ≤ 200 + (i + 4) → n1 ≤ 1000 + (i + 4) → gN σ1 1 ≤ i + 4 → qG (lX D p l e s m b below meth c) k1 n1 z1 h1 746 [(3, .int (nI i)), (2, .ref mm), (1, .ref x), (0, .ref b)] []) : qG (lX D p l e s m b below meth c) k n z h 312 [(3, .int (nI i)), (2, .ref mm), (1, .ref x), (0, .ref b)] [] := by
  have C := lC (l := l) (e := e) (below := below) C0 hK
  have hI := hC.1
  have hkR : k ≤ room_1.cells := Nat.le_trans (show k ≤ 653995 by omega) (Nat.le_refl _)
  have hnR : n ≤ room_1.slots := Nat.le_trans (show n ≤ 7140263 by omega) (Nat.le_refl _)
  have hkR1 : k + 1 ≤ room_1.cells := Nat.le_trans (show k + 1 ≤ 653995 by omega) (Nat.le_refl _)
  have hnR3 : n + 3 ≤ room_1.slots := Nat.le_trans (show n + 3 ≤ 7140263 by omega) (Nat.le_refl _)
  refine g_aload_n C 2 dL_law_312 rfl rfl rfl ?_
  refine g_aload_n C 3 dL_law_313 rfl rfl rfl ?_
  refine g_iload_n C 0 dL_law_314 rfl rfl rfl ?_
  refine g_iconst C (v := 1) dL_law_315 (by decide) rfl ?_
  refine g_iadd C dL_law_316 rfl ?_
  refine g_topi (y := nI (i + 1)) (nI_add i 1) ?_
  refine l_sld C0 (i := i + 1) (by omega) hL dL_law_317 (pc' := 318) rfl ?_
  refine g_aload_n C 3 dL_law_318 rfl rfl rfl ?_
  refine g_iload_n C 0 dL_law_319 rfl rfl rfl ?_
  refine g_iconst C (v := 2) dL_law_320 (by decide) rfl ?_
  refine g_iadd C dL_law_321 rfl ?_
  refine g_topi (y := nI (i + 2)) (nI_add i 2) ?_
  refine l_sld C0 (i := i + 2) (by omega) hL dL_law_322 (pc' := 323) rfl ?_
  refine g_aload_n C 3 dL_law_323 rfl rfl rfl ?_
  refine g_iload_n C 0 dL_law_324 rfl rfl rfl ?_
  refine g_iconst C (v := 3) dL_law_325 (by decide) rfl ?_
  refine g_iadd C dL_law_326 rfl ?_
  refine g_topi (y := nI (i + 3)) (nI_add i 3) ?_
  refine l_sld C0 (i := i + 3) (by omega) hL dL_law_327 (pc' := 328) rfl ?_
  refine g_lt (fun hlt => ?_)
  refine g_callVp C (As := [.int (xs (i + 1)), .int (xs (i + 2)), .int (xs (i + 3))]) (q := (RX11, TX11, 8)) (k_X11_person l D s.heap.size z hC hz hlt (xs (i + 1)) (xs (i + 2)) (xs (i + 3))) hw_L_48 (hC.2.1) rfl (by decide) rfl rfl (Nat.le_of_ble_eq_true rfl) ⟨hkR1, hnR3⟩ dL_law_328 (pc' := 331) rfl ?_
  rintro r1 h1 z1 ⟨⟨er1, hC⟩, fr1, hz1, hz2⟩
  replace hkR := hkR1
  replace hnR := hnR3
  replace hMd := hMd.fr (fun q g1 g2 => fr1 q (by omega) (by omega))
  obtain ⟨s18, s19, s20, s23, s24, s35, f21, f22, hM, hR⟩ := hMd
  refine g_aload_n C 1 dL_law_331 rfl rfl rfl ?_
  refine g_aload_n C 3 dL_law_332 rfl rfl rfl ?_
  refine g_iload_n C 0 dL_law_333 rfl rfl rfl ?_
  refine g_iconst C (v := 1) dL_law_334 (by decide) rfl ?_
  refine g_iadd C dL_law_335 rfl ?_
  refine g_topi (y := nI (i + 1)) (nI_add i 1) ?_
  refine l_sld C0 (i := i + 1) (by omega) hL dL_law_336 (pc' := 337) rfl ?_
  refine g_aload_n C 3 dL_law_337 rfl rfl rfl ?_
  refine g_iload_n C 0 dL_law_338 rfl rfl rfl ?_
  refine g_iconst C (v := 2) dL_law_339 (by decide) rfl ?_
  refine g_iadd C dL_law_340 rfl ?_
  refine g_topi (y := nI (i + 2)) (nI_add i 2) ?_
  refine l_sld C0 (i := i + 2) (by omega) hL dL_law_341 (pc' := 342) rfl ?_
  refine g_aload_n C 3 dL_law_342 rfl rfl rfl ?_
  refine g_iload_n C 0 dL_law_343 rfl rfl rfl ?_
  refine g_iconst C (v := 3) dL_law_344 (by decide) rfl ?_
  refine g_iadd C dL_law_345 rfl ?_
  refine g_topi (y := nI (i + 3)) (nI_add i 3) ?_
  refine l_sld C0 (i := i + 3) (by omega) hL dL_law_346 (pc' := 347) rfl ?_
  refine g_callVi C (As := [.int (xs (i + 1)), .int (xs (i + 2)), .int (xs (i + 3))]) (q := (RX12, TX12, 36)) (k_X12_person l D s.heap.size z1 hM hR (hI.1) (hI.2.2.1) (hI.2.2.2.2.2.1) (xs (i + 1)) (xs (i + 2)) (xs (i + 3))) hw_L_52 (hM) rfl (by decide) rfl rfl (Nat.le_of_ble_eq_true rfl) ⟨hkR, hnR⟩ dL_law_347 (pc' := 350) rfl ?_
  rintro r2 h2 ⟨⟨er2, hMd⟩, fr2⟩
  replace hC := hC.fr (fun q g => fr2 q (by omega))
  have heq : r1 = r2 := er1.trans er2.symm
  refine g_icmp_eq C dL_law_350 (tgt := 746) (by decide) (pc' := 353) rfl (fun _ => ?_) (fun q => absurd heq q)
  have hN := n1_person σ (xs (i + 1)) (xs (i + 2)) (xs (i + 3))
  have hG2 : GoodT (oPerson σ (xs (i + 1)) (xs (i + 2)) (xs (i + 3))).2 := good_person hG (xs (i + 1)) (xs (i + 2)) (xs (i + 3))
  exact back _ h2 z1 (k + 1) (n + 3) hC hMd hG2 (by omega) (by omega) (by omega) (by omega)
set_option maxHeartbeats 4000000 in
set_option maxRecDepth 100000 in
theorem lw_station {D : va_G} {p : Program} {l : Launch} {e : Env} {s : State} {m : MethodId} {b : Nat} {below : List Frame} {meth : Method} {c : Code} {L : Nat} {xs : Nat → Int32} (hL : L ≤ 2048) (C0 : lw_At p s m meth c b L xs) (hK : qK D s) {k n z i x mm : Nat} {h : qH} {σ : sg} (hi : i + 4 ≤ L) (hmm : mm = x + 118) (hC : Cls D h x σ) (hMd : MdlAt D h mm σ) (hG : GoodT σ) (hz : x + 134 ≤ z) (hk : k ≤ 200 + i) (hn : n ≤ 1000 + i) (h1i : gN σ 1 ≤ i)
    (back : ∀ (σ1 : sg) (h1 : qH) (z1 k1 n1 : Nat), Cls D h1 x σ1 → MdlAt D h1 mm σ1 → GoodT σ1 → x + 134 ≤ z1 → k1 ≤ 200 + (i + 4) → n1 ≤ 1000 + (i + 4) → gN σ1 1 ≤ i + 4 → qG (lX D p l e s m b below meth c) k1 n1 z1 h1 746 [(3, .int (nI i)), (2, .ref mm), (1, .ref x), (0, .ref b)] []) : qG (lX D p l e s m b below meth c) k n z h 197 [(3, .int (nI i)), (2, .ref mm), (1, .ref x), (0, .ref b)] [] := by
  have C := lC (l := l) (e := e) (below := below) C0 hK
  have hI := hC.1
  have hkR : k ≤ room_1.cells := Nat.le_trans (show k ≤ 653995 by omega) (Nat.le_refl _)
  have hnR : n ≤ room_1.slots := Nat.le_trans (show n ≤ 7140263 by omega) (Nat.le_refl _)
  refine g_aload_n C 2 dL_law_197 rfl rfl rfl ?_
  refine g_callVi C (As := []) (q := (RX11, TX11, 8)) (k_X11_station l D s.heap.size z hC (by omega) ) hw_L_27 (hC.2.1) rfl (by decide) rfl rfl (Nat.le_of_ble_eq_true rfl) ⟨hkR, hnR⟩ dL_law_198 (pc' := 201) rfl ?_
  rintro r1 h1 ⟨⟨er1, hC⟩, fr1⟩
  replace hMd := hMd.fr (fun q g1 g2 => fr1 q (by omega) (by omega))
  obtain ⟨s18, s19, s20, s23, s24, s35, f21, f22, hM, hR⟩ := hMd
  refine g_aload_n C 1 dL_law_201 rfl rfl rfl ?_
  refine g_callVi C (As := []) (q := (RX12, TX12, 36)) (k_X12_station l D s.heap.size z hM hR (hI.2.2.2.2.2.2.2.1) ) hw_L_30 (hM) rfl (by decide) rfl rfl (Nat.le_of_ble_eq_true rfl) ⟨hkR, hnR⟩ dL_law_202 (pc' := 205) rfl ?_
  rintro r2 h2 ⟨⟨er2, hMd⟩, fr2⟩
  replace hC := hC.fr (fun q g => fr2 q (by omega))
  rw [← (eStation σ : oStation σ = _)] at er2 hMd
  have heq : r1 = r2 := er1.trans er2.symm
  refine g_icmp_eq C dL_law_205 (tgt := 746) (by decide) (pc' := 208) rfl (fun _ => ?_) (fun q => absurd heq q)
  have hN := n1_station σ
  have hG2 : GoodT (oStation σ).2 := (eStation σ).symm ▸ good_station hI hG
  exact back _ h2 z k n hC hMd hG2 hz (by omega) (by omega) (by omega)
set_option maxHeartbeats 4000000 in
set_option maxRecDepth 100000 in
theorem lw_reading {D : va_G} {p : Program} {l : Launch} {e : Env} {s : State} {m : MethodId} {b : Nat} {below : List Frame} {meth : Method} {c : Code} {L : Nat} {xs : Nat → Int32} (hL : L ≤ 2048) (C0 : lw_At p s m meth c b L xs) (hK : qK D s) {k n z i x mm : Nat} {h : qH} {σ : sg} (hi : i + 4 ≤ L) (hmm : mm = x + 118) (hC : Cls D h x σ) (hMd : MdlAt D h mm σ) (hG : GoodT σ) (hz : x + 134 ≤ z) (hk : k ≤ 200 + i) (hn : n ≤ 1000 + i) (h1i : gN σ 1 ≤ i)
    (back : ∀ (σ1 : sg) (h1 : qH) (z1 k1 n1 : Nat), Cls D h1 x σ1 → MdlAt D h1 mm σ1 → GoodT σ1 → x + 134 ≤ z1 → k1 ≤ 200 + (i + 4) → n1 ≤ 1000 + (i + 4) → gN σ1 1 ≤ i + 4 → qG (lX D p l e s m b below meth c) k1 n1 z1 h1 746 [(3, .int (nI i)), (2, .ref mm), (1, .ref x), (0, .ref b)] []) : qG (lX D p l e s m b below meth c) k n z h 243 [(3, .int (nI i)), (2, .ref mm), (1, .ref x), (0, .ref b)] [] := by
  have C := lC (l := l) (e := e) (below := below) C0 hK
  have hI := hC.1
  have hkR : k ≤ room_1.cells := Nat.le_trans (show k ≤ 653995 by omega) (Nat.le_refl _)
  have hnR : n ≤ room_1.slots := Nat.le_trans (show n ≤ 7140263 by omega) (Nat.le_refl _)
  refine g_aload_n C 2 dL_law_243 rfl rfl rfl ?_
  refine g_aload_n C 3 dL_law_244 rfl rfl rfl ?_
  refine g_iload_n C 0 dL_law_245 rfl rfl rfl ?_
  refine g_iconst C (v := 1) dL_law_246 (by decide) rfl ?_
  refine g_iadd C dL_law_247 rfl ?_
  refine g_topi (y := nI (i + 1)) (nI_add i 1) ?_
  refine l_sld C0 (i := i + 1) (by omega) hL dL_law_248 (pc' := 249) rfl ?_
  refine g_callVi C (As := [.int (xs (i + 1))]) (q := (RX11, TX11, 8)) (k_X11_reading l D s.heap.size z hC  (xs (i + 1))) hw_L_36 (hC.2.1) rfl (by decide) rfl rfl (Nat.le_of_ble_eq_true rfl) ⟨hkR, hnR⟩ dL_law_249 (pc' := 252) rfl ?_
  rintro r1 h1 ⟨⟨er1, hC⟩, fr1⟩
  replace hMd := hMd.fr (fun q g1 g2 => fr1 q (by omega) (by omega))
  obtain ⟨s18, s19, s20, s23, s24, s35, f21, f22, hM, hR⟩ := hMd
  refine g_aload_n C 1 dL_law_252 rfl rfl rfl ?_
  refine g_aload_n C 3 dL_law_253 rfl rfl rfl ?_
  refine g_iload_n C 0 dL_law_254 rfl rfl rfl ?_
  refine g_iconst C (v := 1) dL_law_255 (by decide) rfl ?_
  refine g_iadd C dL_law_256 rfl ?_
  refine g_topi (y := nI (i + 1)) (nI_add i 1) ?_
  refine l_sld C0 (i := i + 1) (by omega) hL dL_law_257 (pc' := 258) rfl ?_
  refine g_callVi C (As := [.int (xs (i + 1))]) (q := (RX12, TX12, 36)) (k_X12_reading l D s.heap.size z hM hR (hI.1) (hI.2.1) (hI.2.2.2.2.1) (xs (i + 1))) hw_L_39 (hM) rfl (by decide) rfl rfl (Nat.le_of_ble_eq_true rfl) ⟨hkR, hnR⟩ dL_law_258 (pc' := 261) rfl ?_
  rintro r2 h2 ⟨⟨er2, hMd⟩, fr2⟩
  replace hC := hC.fr (fun q g => fr2 q (by omega))
  rw [← (eReading hI (xs (i + 1)) : oReading σ (xs (i + 1)) = _)] at er2 hMd
  have heq : r1 = r2 := er1.trans er2.symm
  refine g_icmp_eq C dL_law_261 (tgt := 746) (by decide) (pc' := 264) rfl (fun _ => ?_) (fun q => absurd heq q)
  have hN := n1_reading σ (xs (i + 1))
  have hG2 : GoodT (oReading σ (xs (i + 1))).2 := (eReading hI (xs (i + 1))).symm ▸ good_reading hI hG (xs (i + 1))
  exact back _ h2 z k n hC hMd hG2 hz (by omega) (by omega) (by omega)
set_option maxHeartbeats 4000000 in
set_option maxRecDepth 100000 in
theorem lw_day {D : va_G} {p : Program} {l : Launch} {e : Env} {s : State} {m : MethodId} {b : Nat} {below : List Frame} {meth : Method} {c : Code} {L : Nat} {xs : Nat → Int32} (hL : L ≤ 2048) (C0 : lw_At p s m meth c b L xs) (hK : qK D s) {k n z i x mm : Nat} {h : qH} {σ : sg} (hi : i + 4 ≤ L) (hmm : mm = x + 118) (hC : Cls D h x σ) (hMd : MdlAt D h mm σ) (hG : GoodT σ) (hz : x + 134 ≤ z) (hk : k ≤ 200 + i) (hn : n ≤ 1000 + i) (h1i : gN σ 1 ≤ i)
    (back : ∀ (σ1 : sg) (h1 : qH) (z1 k1 n1 : Nat), Cls D h1 x σ1 → MdlAt D h1 mm σ1 → GoodT σ1 → x + 134 ≤ z1 → k1 ≤ 200 + (i + 4) → n1 ≤ 1000 + (i + 4) → gN σ1 1 ≤ i + 4 → qG (lX D p l e s m b below meth c) k1 n1 z1 h1 746 [(3, .int (nI i)), (2, .ref mm), (1, .ref x), (0, .ref b)] []) : qG (lX D p l e s m b below meth c) k n z h 289 [(3, .int (nI i)), (2, .ref mm), (1, .ref x), (0, .ref b)] [] := by
  have C := lC (l := l) (e := e) (below := below) C0 hK
  have hI := hC.1
  have hkR : k ≤ room_1.cells := Nat.le_trans (show k ≤ 653995 by omega) (Nat.le_refl _)
  have hnR : n ≤ room_1.slots := Nat.le_trans (show n ≤ 7140263 by omega) (Nat.le_refl _)
  refine g_aload_n C 2 dL_law_289 rfl rfl rfl ?_
  refine g_aload_n C 3 dL_law_290 rfl rfl rfl ?_
  refine g_iload_n C 0 dL_law_291 rfl rfl rfl ?_
  refine g_iconst C (v := 1) dL_law_292 (by decide) rfl ?_
  refine g_iadd C dL_law_293 rfl ?_
  refine g_topi (y := nI (i + 1)) (nI_add i 1) ?_
  refine l_sld C0 (i := i + 1) (by omega) hL dL_law_294 (pc' := 295) rfl ?_
  refine g_callVi C (As := [.int (xs (i + 1))]) (q := (RX11, TX11, 8)) (k_X11_day l D s.heap.size z hC  (xs (i + 1))) hw_L_44 (hC.2.1) rfl (by decide) rfl rfl (Nat.le_of_ble_eq_true rfl) ⟨hkR, hnR⟩ dL_law_295 (pc' := 298) rfl ?_
  rintro r1 h1 ⟨⟨er1, hC⟩, fr1⟩
  replace hMd := hMd.fr (fun q g1 g2 => fr1 q (by omega) (by omega))
  obtain ⟨s18, s19, s20, s23, s24, s35, f21, f22, hM, hR⟩ := hMd
  refine g_aload_n C 1 dL_law_298 rfl rfl rfl ?_
  refine g_aload_n C 3 dL_law_299 rfl rfl rfl ?_
  refine g_iload_n C 0 dL_law_300 rfl rfl rfl ?_
  refine g_iconst C (v := 1) dL_law_301 (by decide) rfl ?_
  refine g_iadd C dL_law_302 rfl ?_
  refine g_topi (y := nI (i + 1)) (nI_add i 1) ?_
  refine l_sld C0 (i := i + 1) (by omega) hL dL_law_303 (pc' := 304) rfl ?_
  refine g_callVi C (As := [.int (xs (i + 1))]) (q := (RX12, TX12, 36)) (k_X12_day l D s.heap.size z hM hR (hI.1) (hI.2.2.2.2.1) (hI.2.2.2.2.2.1) (xs (i + 1))) hw_L_47 (hM) rfl (by decide) rfl rfl (Nat.le_of_ble_eq_true rfl) ⟨hkR, hnR⟩ dL_law_304 (pc' := 307) rfl ?_
  rintro r2 h2 ⟨⟨er2, hMd⟩, fr2⟩
  replace hC := hC.fr (fun q g => fr2 q (by omega))
  rw [← (eDay hI hG.t (xs (i + 1)) : oDay σ (xs (i + 1)) = _)] at er2 hMd
  have heq : r1 = r2 := er1.trans er2.symm
  refine g_icmp_eq C dL_law_307 (tgt := 746) (by decide) (pc' := 310) rfl (fun _ => ?_) (fun q => absurd heq q)
  have hN := n1_day σ (xs (i + 1))
  have hG2 : GoodT (oDay σ (xs (i + 1))).2 := (eDay hI hG.t (xs (i + 1))).symm ▸ good_day hI hG (xs (i + 1))
  exact back _ h2 z k n hC hMd hG2 hz (by omega) (by omega) (by omega)
set_option maxHeartbeats 4000000 in
set_option maxRecDepth 100000 in
theorem lw_image {D : va_G} {p : Program} {l : Launch} {e : Env} {s : State} {m : MethodId} {b : Nat} {below : List Frame} {meth : Method} {c : Code} {L : Nat} {xs : Nat → Int32} (hL : L ≤ 2048) (C0 : lw_At p s m meth c b L xs) (hK : qK D s) {k n z i x mm : Nat} {h : qH} {σ : sg} (hi : i + 4 ≤ L) (hmm : mm = x + 118) (hC : Cls D h x σ) (hMd : MdlAt D h mm σ) (hG : GoodT σ) (hz : x + 134 ≤ z) (hk : k ≤ 200 + i) (hn : n ≤ 1000 + i) (h1i : gN σ 1 ≤ i)
    (back : ∀ (σ1 : sg) (h1 : qH) (z1 k1 n1 : Nat), Cls D h1 x σ1 → MdlAt D h1 mm σ1 → GoodT σ1 → x + 134 ≤ z1 → k1 ≤ 200 + (i + 4) → n1 ≤ 1000 + (i + 4) → gN σ1 1 ≤ i + 4 → qG (lX D p l e s m b below meth c) k1 n1 z1 h1 746 [(3, .int (nI i)), (2, .ref mm), (1, .ref x), (0, .ref b)] []) : qG (lX D p l e s m b below meth c) k n z h 683 [(3, .int (nI i)), (2, .ref mm), (1, .ref x), (0, .ref b)] [] := by
  have C := lC (l := l) (e := e) (below := below) C0 hK
  have hI := hC.1
  have hkR : k ≤ room_1.cells := Nat.le_trans (show k ≤ 653995 by omega) (Nat.le_refl _)
  have hnR : n ≤ room_1.slots := Nat.le_trans (show n ≤ 7140263 by omega) (Nat.le_refl _)
  refine g_aload_n C 2 dL_law_683 rfl rfl rfl ?_
  refine g_callVi C (As := []) (q := (RX11, TX11, 8)) (k_X11_image l D s.heap.size z hC  ) hw_L_102 (hC.2.1) rfl (by decide) rfl rfl (Nat.le_of_ble_eq_true rfl) ⟨hkR, hnR⟩ dL_law_684 (pc' := 687) rfl ?_
  rintro r1 h1 ⟨⟨er1, hC⟩, fr1⟩
  replace hMd := hMd.fr (fun q g1 g2 => fr1 q (by omega) (by omega))
  obtain ⟨s18, s19, s20, s23, s24, s35, f21, f22, hM, hR⟩ := hMd
  refine g_aload_n C 1 dL_law_687 rfl rfl rfl ?_
  refine g_callVi C (As := []) (q := (RX12, TX12, 36)) (k_X12_image l D s.heap.size z hM hR (hI.1) ) hw_L_105 (hM) rfl (by decide) rfl rfl (Nat.le_of_ble_eq_true rfl) ⟨hkR, hnR⟩ dL_law_688 (pc' := 691) rfl ?_
  rintro r2 h2 ⟨⟨er2, hMd⟩, fr2⟩
  replace hC := hC.fr (fun q g => fr2 q (by omega))
  rw [← (eImage hI : oImage σ = _)] at er2 hMd
  have heq : r1 = r2 := er1.trans er2.symm
  refine g_icmp_eq C dL_law_691 (tgt := 746) (by decide) (pc' := 694) rfl (fun _ => ?_) (fun q => absurd heq q)
  have hN := n1_image σ
  have hG2 : GoodT (oImage σ).2 := (eImage hI).symm ▸ good_image hI hG
  exact back _ h2 z k n hC hMd hG2 hz (by omega) (by omega) (by omega)
set_option maxHeartbeats 4000000 in
set_option maxRecDepth 100000 in
theorem lw_restore {D : va_G} {p : Program} {l : Launch} {e : Env} {s : State} {m : MethodId} {b : Nat} {below : List Frame} {meth : Method} {c : Code} {L : Nat} {xs : Nat → Int32} (hL : L ≤ 2048) (C0 : lw_At p s m meth c b L xs) (hK : qK D s) {k n z i x mm : Nat} {h : qH} {σ : sg} (hi : i + 4 ≤ L) (hmm : mm = x + 118) (hC : Cls D h x σ) (hMd : MdlAt D h mm σ) (hG : GoodT σ) (hz : x + 134 ≤ z) (hk : k ≤ 200 + i) (hn : n ≤ 1000 + i) (h1i : gN σ 1 ≤ i)
    (back : ∀ (σ1 : sg) (h1 : qH) (z1 k1 n1 : Nat), Cls D h1 x σ1 → MdlAt D h1 mm σ1 → GoodT σ1 → x + 134 ≤ z1 → k1 ≤ 200 + (i + 4) → n1 ≤ 1000 + (i + 4) → gN σ1 1 ≤ i + 4 → qG (lX D p l e s m b below meth c) k1 n1 z1 h1 746 [(3, .int (nI i)), (2, .ref mm), (1, .ref x), (0, .ref b)] []) : qG (lX D p l e s m b below meth c) k n z h 696 [(3, .int (nI i)), (2, .ref mm), (1, .ref x), (0, .ref b)] [] := by
  have C := lC (l := l) (e := e) (below := below) C0 hK
  have hI := hC.1
  have hkR : k ≤ room_1.cells := Nat.le_trans (show k ≤ 653995 by omega) (Nat.le_refl _)
  have hnR : n ≤ room_1.slots := Nat.le_trans (show n ≤ 7140263 by omega) (Nat.le_refl _)
  refine g_aload_n C 2 dL_law_696 rfl rfl rfl ?_
  refine g_callVi C (As := []) (q := (RX11, TX11, 8)) (k_X11_restore l D s.heap.size z hC  ) hw_L_106 (hC.2.1) rfl (by decide) rfl rfl (Nat.le_of_ble_eq_true rfl) ⟨hkR, hnR⟩ dL_law_697 (pc' := 700) rfl ?_
  rintro r1 h1 ⟨⟨er1, hC⟩, fr1⟩
  replace hMd := hMd.fr (fun q g1 g2 => fr1 q (by omega) (by omega))
  obtain ⟨s18, s19, s20, s23, s24, s35, f21, f22, hM, hR⟩ := hMd
  refine g_aload_n C 1 dL_law_700 rfl rfl rfl ?_
  refine g_callVi C (As := []) (q := (RX12, TX12, 36)) (k_X12_restore l D s.heap.size z hM hR (hI.2.2.2.2.2.2.2.2.2.2.2.2.1) (hI.2.2.2.2.2.2.2.2.2.2.1) (hI.2.2.2.2.2.2.2.2.2.2.2.2.2.1) ) hw_L_109 (hM) rfl (by decide) rfl rfl (Nat.le_of_ble_eq_true rfl) ⟨hkR, hnR⟩ dL_law_701 (pc' := 704) rfl ?_
  rintro r2 h2 ⟨⟨er2, hMd⟩, fr2⟩
  replace hC := hC.fr (fun q g => fr2 q (by omega))
  rw [← (eRestore σ : oRestore σ = _)] at er2 hMd
  have heq : r1 = r2 := er1.trans er2.symm
  refine g_icmp_eq C dL_law_704 (tgt := 746) (by decide) (pc' := 707) rfl (fun _ => ?_) (fun q => absurd heq q)
  have hN := n1_restore σ
  have hG2 : GoodT (oRestore σ).2 := good_restore hI hG
  exact back _ h2 z k n hC hMd hG2 hz (by omega) (by omega) (by omega)
set_option maxHeartbeats 4000000 in
set_option maxRecDepth 100000 in
theorem lw_fault {D : va_G} {p : Program} {l : Launch} {e : Env} {s : State} {m : MethodId} {b : Nat} {below : List Frame} {meth : Method} {c : Code} {L : Nat} {xs : Nat → Int32} (hL : L ≤ 2048) (C0 : lw_At p s m meth c b L xs) (hK : qK D s) {k n z i x mm : Nat} {h : qH} {σ : sg} (hi : i + 4 ≤ L) (hmm : mm = x + 118) (hC : Cls D h x σ) (hMd : MdlAt D h mm σ) (hG : GoodT σ) (hz : x + 134 ≤ z) (hk : k ≤ 200 + i) (hn : n ≤ 1000 + i) (h1i : gN σ 1 ≤ i)
    (back : ∀ (σ1 : sg) (h1 : qH) (z1 k1 n1 : Nat), Cls D h1 x σ1 → MdlAt D h1 mm σ1 → GoodT σ1 → x + 134 ≤ z1 → k1 ≤ 200 + (i + 4) → n1 ≤ 1000 + (i + 4) → gN σ1 1 ≤ i + 4 → qG (lX D p l e s m b below meth c) k1 n1 z1 h1 746 [(3, .int (nI i)), (2, .ref mm), (1, .ref x), (0, .ref b)] []) : qG (lX D p l e s m b below meth c) k n z h 184 [(3, .int (nI i)), (2, .ref mm), (1, .ref x), (0, .ref b)] [] := by
  have C := lC (l := l) (e := e) (below := below) C0 hK
  have hI := hC.1
  have hkR : k ≤ room_1.cells := Nat.le_trans (show k ≤ 653995 by omega) (Nat.le_refl _)
  have hnR : n ≤ room_1.slots := Nat.le_trans (show n ≤ 7140263 by omega) (Nat.le_refl _)
  refine g_aload_n C 2 dL_law_184 rfl rfl rfl ?_
  refine g_callVi C (As := []) (q := (RX11, TX11, 8)) (k_X11_fault l D s.heap.size z hC  ) hw_L_23 (hC.2.1) rfl (by decide) rfl rfl (Nat.le_of_ble_eq_true rfl) ⟨hkR, hnR⟩ dL_law_185 (pc' := 188) rfl ?_
  rintro r1 h9 ⟨er1, e9⟩
  subst h9
  obtain ⟨s18, s19, s20, s23, s24, s35, f21, f22, hM, hR⟩ := hMd
  refine g_aload_n C 1 dL_law_188 rfl rfl rfl ?_
  refine g_callVi C (As := []) (q := (RX12, TX12, 36)) (k_X12_fault l D s.heap.size z hM hR (hI.2.2.2.2.2.2.2.1) ) hw_L_26 (hM) rfl (by decide) rfl rfl (Nat.le_of_ble_eq_true rfl) ⟨hkR, hnR⟩ dL_law_189 (pc' := 192) rfl ?_
  rintro r2 h9 ⟨er2, e9⟩
  subst h9
  have heq : r1 = r2 := er1.trans (eFault er2).symm
  refine g_icmp_eq C dL_law_192 (tgt := 746) (by decide) (pc' := 195) rfl (fun _ => ?_) (fun q => absurd heq q)
  exact back σ h z k n hC ⟨s18, s19, s20, s23, s24, s35, f21, f22, hM, hR⟩ hG hz (by omega) (by omega) (by omega)
set_option maxHeartbeats 4000000 in
set_option maxRecDepth 100000 in
theorem lw_follows {D : va_G} {p : Program} {l : Launch} {e : Env} {s : State} {m : MethodId} {b : Nat} {below : List Frame} {meth : Method} {c : Code} {L : Nat} {xs : Nat → Int32} (hL : L ≤ 2048) (C0 : lw_At p s m meth c b L xs) (hK : qK D s) {k n z i x mm : Nat} {h : qH} {σ : sg} (hi : i + 4 ≤ L) (hmm : mm = x + 118) (hC : Cls D h x σ) (hMd : MdlAt D h mm σ) (hG : GoodT σ) (hz : x + 134 ≤ z) (hk : k ≤ 200 + i) (hn : n ≤ 1000 + i) (h1i : gN σ 1 ≤ i)
    (back : ∀ (σ1 : sg) (h1 : qH) (z1 k1 n1 : Nat), Cls D h1 x σ1 → MdlAt D h1 mm σ1 → GoodT σ1 → x + 134 ≤ z1 → k1 ≤ 200 + (i + 4) → n1 ≤ 1000 + (i + 4) → gN σ1 1 ≤ i + 4 → qG (lX D p l e s m b below meth c) k1 n1 z1 h1 746 [(3, .int (nI i)), (2, .ref mm), (1, .ref x), (0, .ref b)] []) : qG (lX D p l e s m b below meth c) k n z h 210 [(3, .int (nI i)), (2, .ref mm), (1, .ref x), (0, .ref b)] [] := by
  have C := lC (l := l) (e := e) (below := below) C0 hK
  have hI := hC.1
  have hkR : k ≤ room_1.cells := Nat.le_trans (show k ≤ 653995 by omega) (Nat.le_refl _)
  have hnR : n ≤ room_1.slots := Nat.le_trans (show n ≤ 7140263 by omega) (Nat.le_refl _)
  refine g_aload_n C 2 dL_law_210 rfl rfl rfl ?_
  refine g_aload_n C 3 dL_law_211 rfl rfl rfl ?_
  refine g_iload_n C 0 dL_law_212 rfl rfl rfl ?_
  refine g_iconst C (v := 1) dL_law_213 (by decide) rfl ?_
  refine g_iadd C dL_law_214 rfl ?_
  refine g_topi (y := nI (i + 1)) (nI_add i 1) ?_
  refine l_sld C0 (i := i + 1) (by omega) hL dL_law_215 (pc' := 216) rfl ?_
  refine g_aload_n C 3 dL_law_216 rfl rfl rfl ?_
  refine g_iload_n C 0 dL_law_217 rfl rfl rfl ?_
  refine g_iconst C (v := 2) dL_law_218 (by decide) rfl ?_
  refine g_iadd C dL_law_219 rfl ?_
  refine g_topi (y := nI (i + 2)) (nI_add i 2) ?_
  refine l_sld C0 (i := i + 2) (by omega) hL dL_law_220 (pc' := 221) rfl ?_
  refine g_callVi C (As := [.int (xs (i + 1)), .int (xs (i + 2))]) (q := (RX11, TX11, 8)) (k_X11_follows l D s.heap.size z hC  (xs (i + 1)) (xs (i + 2))) hw_L_31 (hC.2.1) rfl (by decide) rfl rfl (Nat.le_of_ble_eq_true rfl) ⟨hkR, hnR⟩ dL_law_221 (pc' := 224) rfl ?_
  rintro r1 h9 ⟨er1, e9⟩
  subst h9
  obtain ⟨s18, s19, s20, s23, s24, s35, f21, f22, hM, hR⟩ := hMd
  refine g_aload_n C 1 dL_law_224 rfl rfl rfl ?_
  refine g_aload_n C 3 dL_law_225 rfl rfl rfl ?_
  refine g_iload_n C 0 dL_law_226 rfl rfl rfl ?_
  refine g_iconst C (v := 1) dL_law_227 (by decide) rfl ?_
  refine g_iadd C dL_law_228 rfl ?_
  refine g_topi (y := nI (i + 1)) (nI_add i 1) ?_
  refine l_sld C0 (i := i + 1) (by omega) hL dL_law_229 (pc' := 230) rfl ?_
  refine g_aload_n C 3 dL_law_230 rfl rfl rfl ?_
  refine g_iload_n C 0 dL_law_231 rfl rfl rfl ?_
  refine g_iconst C (v := 2) dL_law_232 (by decide) rfl ?_
  refine g_iadd C dL_law_233 rfl ?_
  refine g_topi (y := nI (i + 2)) (nI_add i 2) ?_
  refine l_sld C0 (i := i + 2) (by omega) hL dL_law_234 (pc' := 235) rfl ?_
  refine g_callVi C (As := [.int (xs (i + 1)), .int (xs (i + 2))]) (q := (RX12, TX12, 36)) (k_X12_follows l D s.heap.size z hM hR (hI.1) (xs (i + 1)) (xs (i + 2))) hw_L_35 (hM) rfl (by decide) rfl rfl (Nat.le_of_ble_eq_true rfl) ⟨hkR, hnR⟩ dL_law_235 (pc' := 238) rfl ?_
  rintro r2 h9 ⟨er2, e9⟩
  subst h9
  have heq : r1 = r2 := er1.trans ((eFollows hI (xs (i + 1)) (xs (i + 2))).trans er2.symm)
  refine g_icmp_eq C dL_law_238 (tgt := 746) (by decide) (pc' := 241) rfl (fun _ => ?_) (fun q => absurd heq q)
  exact back σ h z k n hC ⟨s18, s19, s20, s23, s24, s35, f21, f22, hM, hR⟩ hG hz (by omega) (by omega) (by omega)
set_option maxHeartbeats 4000000 in
set_option maxRecDepth 100000 in
theorem lw_told {D : va_G} {p : Program} {l : Launch} {e : Env} {s : State} {m : MethodId} {b : Nat} {below : List Frame} {meth : Method} {c : Code} {L : Nat} {xs : Nat → Int32} (hL : L ≤ 2048) (C0 : lw_At p s m meth c b L xs) (hK : qK D s) {k n z i x mm : Nat} {h : qH} {σ : sg} (hi : i + 4 ≤ L) (hmm : mm = x + 118) (hC : Cls D h x σ) (hMd : MdlAt D h mm σ) (hG : GoodT σ) (hz : x + 134 ≤ z) (hk : k ≤ 200 + i) (hn : n ≤ 1000 + i) (h1i : gN σ 1 ≤ i)
    (back : ∀ (σ1 : sg) (h1 : qH) (z1 k1 n1 : Nat), Cls D h1 x σ1 → MdlAt D h1 mm σ1 → GoodT σ1 → x + 134 ≤ z1 → k1 ≤ 200 + (i + 4) → n1 ≤ 1000 + (i + 4) → gN σ1 1 ≤ i + 4 → qG (lX D p l e s m b below meth c) k1 n1 z1 h1 746 [(3, .int (nI i)), (2, .ref mm), (1, .ref x), (0, .ref b)] []) : qG (lX D p l e s m b below meth c) k n z h 266 [(3, .int (nI i)), (2, .ref mm), (1, .ref x), (0, .ref b)] [] := by
  have C := lC (l := l) (e := e) (below := below) C0 hK
  have hI := hC.1
  have hkR : k ≤ room_1.cells := Nat.le_trans (show k ≤ 653995 by omega) (Nat.le_refl _)
  have hnR : n ≤ room_1.slots := Nat.le_trans (show n ≤ 7140263 by omega) (Nat.le_refl _)
  refine g_aload_n C 2 dL_law_266 rfl rfl rfl ?_
  refine g_aload_n C 3 dL_law_267 rfl rfl rfl ?_
  refine g_iload_n C 0 dL_law_268 rfl rfl rfl ?_
  refine g_iconst C (v := 1) dL_law_269 (by decide) rfl ?_
  refine g_iadd C dL_law_270 rfl ?_
  refine g_topi (y := nI (i + 1)) (nI_add i 1) ?_
  refine l_sld C0 (i := i + 1) (by omega) hL dL_law_271 (pc' := 272) rfl ?_
  refine g_callVi C (As := [.int (xs (i + 1))]) (q := (RX11, TX11, 8)) (k_X11_told l D s.heap.size z hC  (xs (i + 1))) hw_L_40 (hC.2.1) rfl (by decide) rfl rfl (Nat.le_of_ble_eq_true rfl) ⟨hkR, hnR⟩ dL_law_272 (pc' := 275) rfl ?_
  rintro r1 h9 ⟨er1, e9⟩
  subst h9
  obtain ⟨s18, s19, s20, s23, s24, s35, f21, f22, hM, hR⟩ := hMd
  refine g_aload_n C 1 dL_law_275 rfl rfl rfl ?_
  refine g_aload_n C 3 dL_law_276 rfl rfl rfl ?_
  refine g_iload_n C 0 dL_law_277 rfl rfl rfl ?_
  refine g_iconst C (v := 1) dL_law_278 (by decide) rfl ?_
  refine g_iadd C dL_law_279 rfl ?_
  refine g_topi (y := nI (i + 1)) (nI_add i 1) ?_
  refine l_sld C0 (i := i + 1) (by omega) hL dL_law_280 (pc' := 281) rfl ?_
  refine g_callVi C (As := [.int (xs (i + 1))]) (q := (RX12, TX12, 36)) (k_X12_told l D s.heap.size z hM hR (hI.1) (xs (i + 1))) hw_L_43 (hM) rfl (by decide) rfl rfl (Nat.le_of_ble_eq_true rfl) ⟨hkR, hnR⟩ dL_law_281 (pc' := 284) rfl ?_
  rintro r2 h9 ⟨er2, e9⟩
  subst h9
  have heq : r1 = r2 := er1.trans ((eTold hI (xs (i + 1))).trans er2.symm)
  refine g_icmp_eq C dL_law_284 (tgt := 746) (by decide) (pc' := 287) rfl (fun _ => ?_) (fun q => absurd heq q)
  exact back σ h z k n hC ⟨s18, s19, s20, s23, s24, s35, f21, f22, hM, hR⟩ hG hz (by omega) (by omega) (by omega)
set_option maxHeartbeats 4000000 in
set_option maxRecDepth 100000 in
theorem lw_about {D : va_G} {p : Program} {l : Launch} {e : Env} {s : State} {m : MethodId} {b : Nat} {below : List Frame} {meth : Method} {c : Code} {L : Nat} {xs : Nat → Int32} (hL : L ≤ 2048) (C0 : lw_At p s m meth c b L xs) (hK : qK D s) {k n z i x mm : Nat} {h : qH} {σ : sg} (hi : i + 4 ≤ L) (hmm : mm = x + 118) (hC : Cls D h x σ) (hMd : MdlAt D h mm σ) (hG : GoodT σ) (hz : x + 134 ≤ z) (hk : k ≤ 200 + i) (hn : n ≤ 1000 + i) (h1i : gN σ 1 ≤ i)
    (back : ∀ (σ1 : sg) (h1 : qH) (z1 k1 n1 : Nat), Cls D h1 x σ1 → MdlAt D h1 mm σ1 → GoodT σ1 → x + 134 ≤ z1 → k1 ≤ 200 + (i + 4) → n1 ≤ 1000 + (i + 4) → gN σ1 1 ≤ i + 4 → qG (lX D p l e s m b below meth c) k1 n1 z1 h1 746 [(3, .int (nI i)), (2, .ref mm), (1, .ref x), (0, .ref b)] []) : qG (lX D p l e s m b below meth c) k n z h 355 [(3, .int (nI i)), (2, .ref mm), (1, .ref x), (0, .ref b)] [] := by
  have C := lC (l := l) (e := e) (below := below) C0 hK
  have hI := hC.1
  have hkR : k ≤ room_1.cells := Nat.le_trans (show k ≤ 653995 by omega) (Nat.le_refl _)
  have hnR : n ≤ room_1.slots := Nat.le_trans (show n ≤ 7140263 by omega) (Nat.le_refl _)
  refine g_aload_n C 2 dL_law_355 rfl rfl rfl ?_
  refine g_aload_n C 3 dL_law_356 rfl rfl rfl ?_
  refine g_iload_n C 0 dL_law_357 rfl rfl rfl ?_
  refine g_iconst C (v := 1) dL_law_358 (by decide) rfl ?_
  refine g_iadd C dL_law_359 rfl ?_
  refine g_topi (y := nI (i + 1)) (nI_add i 1) ?_
  refine l_sld C0 (i := i + 1) (by omega) hL dL_law_360 (pc' := 361) rfl ?_
  refine g_aload_n C 3 dL_law_361 rfl rfl rfl ?_
  refine g_iload_n C 0 dL_law_362 rfl rfl rfl ?_
  refine g_iconst C (v := 2) dL_law_363 (by decide) rfl ?_
  refine g_iadd C dL_law_364 rfl ?_
  refine g_topi (y := nI (i + 2)) (nI_add i 2) ?_
  refine l_sld C0 (i := i + 2) (by omega) hL dL_law_365 (pc' := 366) rfl ?_
  refine g_callVi C (As := [.int (xs (i + 1)), .int (xs (i + 2))]) (q := (RX11, TX11, 8)) (k_X11_about l D s.heap.size z hC  (xs (i + 1)) (xs (i + 2))) hw_L_53 (hC.2.1) rfl (by decide) rfl rfl (Nat.le_of_ble_eq_true rfl) ⟨hkR, hnR⟩ dL_law_366 (pc' := 369) rfl ?_
  rintro r1 h9 ⟨er1, e9⟩
  subst h9
  obtain ⟨s18, s19, s20, s23, s24, s35, f21, f22, hM, hR⟩ := hMd
  refine g_aload_n C 1 dL_law_369 rfl rfl rfl ?_
  refine g_aload_n C 3 dL_law_370 rfl rfl rfl ?_
  refine g_iload_n C 0 dL_law_371 rfl rfl rfl ?_
  refine g_iconst C (v := 1) dL_law_372 (by decide) rfl ?_
  refine g_iadd C dL_law_373 rfl ?_
  refine g_topi (y := nI (i + 1)) (nI_add i 1) ?_
  refine l_sld C0 (i := i + 1) (by omega) hL dL_law_374 (pc' := 375) rfl ?_
  refine g_aload_n C 3 dL_law_375 rfl rfl rfl ?_
  refine g_iload_n C 0 dL_law_376 rfl rfl rfl ?_
  refine g_iconst C (v := 2) dL_law_377 (by decide) rfl ?_
  refine g_iadd C dL_law_378 rfl ?_
  refine g_topi (y := nI (i + 2)) (nI_add i 2) ?_
  refine l_sld C0 (i := i + 2) (by omega) hL dL_law_379 (pc' := 380) rfl ?_
  refine g_callVi C (As := [.int (xs (i + 1)), .int (xs (i + 2))]) (q := (RX12, TX12, 36)) (k_X12_about l D s.heap.size z hM hR (hI.2.2.2.2.1) (hI.2.2.2.2.2.1) (xs (i + 1)) (xs (i + 2))) hw_L_56 (hM) rfl (by decide) rfl rfl (Nat.le_of_ble_eq_true rfl) ⟨hkR, hnR⟩ dL_law_380 (pc' := 383) rfl ?_
  rintro r2 h9 ⟨er2, e9⟩
  subst h9
  have heq : r1 = r2 := er1.trans ((eAbout hI hG.t (xs (i + 1)) (xs (i + 2))).trans er2.symm)
  refine g_icmp_eq C dL_law_383 (tgt := 746) (by decide) (pc' := 386) rfl (fun _ => ?_) (fun q => absurd heq q)
  exact back σ h z k n hC ⟨s18, s19, s20, s23, s24, s35, f21, f22, hM, hR⟩ hG hz (by omega) (by omega) (by omega)
set_option maxHeartbeats 4000000 in
set_option maxRecDepth 100000 in
theorem lw_as {D : va_G} {p : Program} {l : Launch} {e : Env} {s : State} {m : MethodId} {b : Nat} {below : List Frame} {meth : Method} {c : Code} {L : Nat} {xs : Nat → Int32} (hL : L ≤ 2048) (C0 : lw_At p s m meth c b L xs) (hK : qK D s) {k n z i x mm : Nat} {h : qH} {σ : sg} (hi : i + 4 ≤ L) (hmm : mm = x + 118) (hC : Cls D h x σ) (hMd : MdlAt D h mm σ) (hG : GoodT σ) (hz : x + 134 ≤ z) (hk : k ≤ 200 + i) (hn : n ≤ 1000 + i) (h1i : gN σ 1 ≤ i)
    (back : ∀ (σ1 : sg) (h1 : qH) (z1 k1 n1 : Nat), Cls D h1 x σ1 → MdlAt D h1 mm σ1 → GoodT σ1 → x + 134 ≤ z1 → k1 ≤ 200 + (i + 4) → n1 ≤ 1000 + (i + 4) → gN σ1 1 ≤ i + 4 → qG (lX D p l e s m b below meth c) k1 n1 z1 h1 746 [(3, .int (nI i)), (2, .ref mm), (1, .ref x), (0, .ref b)] []) : qG (lX D p l e s m b below meth c) k n z h 388 [(3, .int (nI i)), (2, .ref mm), (1, .ref x), (0, .ref b)] [] := by
  have C := lC (l := l) (e := e) (below := below) C0 hK
  have hI := hC.1
  have hkR : k ≤ room_1.cells := Nat.le_trans (show k ≤ 653995 by omega) (Nat.le_refl _)
  have hnR : n ≤ room_1.slots := Nat.le_trans (show n ≤ 7140263 by omega) (Nat.le_refl _)
  refine g_aload_n C 2 dL_law_388 rfl rfl rfl ?_
  refine g_aload_n C 3 dL_law_389 rfl rfl rfl ?_
  refine g_iload_n C 0 dL_law_390 rfl rfl rfl ?_
  refine g_iconst C (v := 1) dL_law_391 (by decide) rfl ?_
  refine g_iadd C dL_law_392 rfl ?_
  refine g_topi (y := nI (i + 1)) (nI_add i 1) ?_
  refine l_sld C0 (i := i + 1) (by omega) hL dL_law_393 (pc' := 394) rfl ?_
  refine g_aload_n C 3 dL_law_394 rfl rfl rfl ?_
  refine g_iload_n C 0 dL_law_395 rfl rfl rfl ?_
  refine g_iconst C (v := 2) dL_law_396 (by decide) rfl ?_
  refine g_iadd C dL_law_397 rfl ?_
  refine g_topi (y := nI (i + 2)) (nI_add i 2) ?_
  refine l_sld C0 (i := i + 2) (by omega) hL dL_law_398 (pc' := 399) rfl ?_
  refine g_callVi C (As := [.int (xs (i + 1)), .int (xs (i + 2))]) (q := (RX11, TX11, 8)) (k_X11_as l D s.heap.size z hC  (xs (i + 1)) (xs (i + 2))) hw_L_57 (hC.2.1) rfl (by decide) rfl rfl (Nat.le_of_ble_eq_true rfl) ⟨hkR, hnR⟩ dL_law_399 (pc' := 402) rfl ?_
  rintro r1 h9 ⟨er1, e9⟩
  subst h9
  obtain ⟨s18, s19, s20, s23, s24, s35, f21, f22, hM, hR⟩ := hMd
  refine g_aload_n C 1 dL_law_402 rfl rfl rfl ?_
  refine g_aload_n C 3 dL_law_403 rfl rfl rfl ?_
  refine g_iload_n C 0 dL_law_404 rfl rfl rfl ?_
  refine g_iconst C (v := 1) dL_law_405 (by decide) rfl ?_
  refine g_iadd C dL_law_406 rfl ?_
  refine g_topi (y := nI (i + 1)) (nI_add i 1) ?_
  refine l_sld C0 (i := i + 1) (by omega) hL dL_law_407 (pc' := 408) rfl ?_
  refine g_aload_n C 3 dL_law_408 rfl rfl rfl ?_
  refine g_iload_n C 0 dL_law_409 rfl rfl rfl ?_
  refine g_iconst C (v := 2) dL_law_410 (by decide) rfl ?_
  refine g_iadd C dL_law_411 rfl ?_
  refine g_topi (y := nI (i + 2)) (nI_add i 2) ?_
  refine l_sld C0 (i := i + 2) (by omega) hL dL_law_412 (pc' := 413) rfl ?_
  refine g_callVi C (As := [.int (xs (i + 1)), .int (xs (i + 2))]) (q := (RX12, TX12, 36)) (k_X12_as l D s.heap.size z hM hR (hI.2.2.2.2.2.1) (xs (i + 1)) (xs (i + 2))) hw_L_60 (hM) rfl (by decide) rfl rfl (Nat.le_of_ble_eq_true rfl) ⟨hkR, hnR⟩ dL_law_413 (pc' := 416) rfl ?_
  rintro r2 h9 ⟨er2, e9⟩
  subst h9
  have heq : r1 = r2 := er1.trans ((eAs hI (xs (i + 1)) (xs (i + 2))).trans er2.symm)
  refine g_icmp_eq C dL_law_416 (tgt := 746) (by decide) (pc' := 419) rfl (fun _ => ?_) (fun q => absurd heq q)
  exact back σ h z k n hC ⟨s18, s19, s20, s23, s24, s35, f21, f22, hM, hR⟩ hG hz (by omega) (by omega) (by omega)
set_option maxHeartbeats 4000000 in
set_option maxRecDepth 100000 in
theorem lw_likely {D : va_G} {p : Program} {l : Launch} {e : Env} {s : State} {m : MethodId} {b : Nat} {below : List Frame} {meth : Method} {c : Code} {L : Nat} {xs : Nat → Int32} (hL : L ≤ 2048) (C0 : lw_At p s m meth c b L xs) (hK : qK D s) {k n z i x mm : Nat} {h : qH} {σ : sg} (hi : i + 4 ≤ L) (hmm : mm = x + 118) (hC : Cls D h x σ) (hMd : MdlAt D h mm σ) (hG : GoodT σ) (hz : x + 134 ≤ z) (hk : k ≤ 200 + i) (hn : n ≤ 1000 + i) (h1i : gN σ 1 ≤ i)
    (back : ∀ (σ1 : sg) (h1 : qH) (z1 k1 n1 : Nat), Cls D h1 x σ1 → MdlAt D h1 mm σ1 → GoodT σ1 → x + 134 ≤ z1 → k1 ≤ 200 + (i + 4) → n1 ≤ 1000 + (i + 4) → gN σ1 1 ≤ i + 4 → qG (lX D p l e s m b below meth c) k1 n1 z1 h1 746 [(3, .int (nI i)), (2, .ref mm), (1, .ref x), (0, .ref b)] []) : qG (lX D p l e s m b below meth c) k n z h 421 [(3, .int (nI i)), (2, .ref mm), (1, .ref x), (0, .ref b)] [] := by
  have C := lC (l := l) (e := e) (below := below) C0 hK
  have hI := hC.1
  have hkR : k ≤ room_1.cells := Nat.le_trans (show k ≤ 653995 by omega) (Nat.le_refl _)
  have hnR : n ≤ room_1.slots := Nat.le_trans (show n ≤ 7140263 by omega) (Nat.le_refl _)
  refine g_aload_n C 2 dL_law_421 rfl rfl rfl ?_
  refine g_aload_n C 3 dL_law_422 rfl rfl rfl ?_
  refine g_iload_n C 0 dL_law_423 rfl rfl rfl ?_
  refine g_iconst C (v := 1) dL_law_424 (by decide) rfl ?_
  refine g_iadd C dL_law_425 rfl ?_
  refine g_topi (y := nI (i + 1)) (nI_add i 1) ?_
  refine l_sld C0 (i := i + 1) (by omega) hL dL_law_426 (pc' := 427) rfl ?_
  refine g_aload_n C 3 dL_law_427 rfl rfl rfl ?_
  refine g_iload_n C 0 dL_law_428 rfl rfl rfl ?_
  refine g_iconst C (v := 2) dL_law_429 (by decide) rfl ?_
  refine g_iadd C dL_law_430 rfl ?_
  refine g_topi (y := nI (i + 2)) (nI_add i 2) ?_
  refine l_sld C0 (i := i + 2) (by omega) hL dL_law_431 (pc' := 432) rfl ?_
  refine g_aload_n C 3 dL_law_432 rfl rfl rfl ?_
  refine g_iload_n C 0 dL_law_433 rfl rfl rfl ?_
  refine g_iconst C (v := 3) dL_law_434 (by decide) rfl ?_
  refine g_iadd C dL_law_435 rfl ?_
  refine g_topi (y := nI (i + 3)) (nI_add i 3) ?_
  refine l_sld C0 (i := i + 3) (by omega) hL dL_law_436 (pc' := 437) rfl ?_
  refine g_callVl C (As := [.int (xs (i + 1)), .int (xs (i + 2)), .int (xs (i + 3))]) (q := (RX11, TX11, 8)) (k_X11_likely l D s.heap.size z hC  (xs (i + 1)) (xs (i + 2)) (xs (i + 3))) hw_L_61 (hC.2.1) rfl (by decide) rfl rfl (Nat.le_of_ble_eq_true rfl) ⟨hkR, hnR⟩ dL_law_437 (pc' := 440) rfl ?_
  rintro r1 h9 ⟨er1, e9⟩
  subst h9
  obtain ⟨s18, s19, s20, s23, s24, s35, f21, f22, hM, hR⟩ := hMd
  refine g_aload_n C 1 dL_law_440 rfl rfl rfl ?_
  refine g_aload_n C 3 dL_law_441 rfl rfl rfl ?_
  refine g_iload_n C 0 dL_law_442 rfl rfl rfl ?_
  refine g_iconst C (v := 1) dL_law_443 (by decide) rfl ?_
  refine g_iadd C dL_law_444 rfl ?_
  refine g_topi (y := nI (i + 1)) (nI_add i 1) ?_
  refine l_sld C0 (i := i + 1) (by omega) hL dL_law_445 (pc' := 446) rfl ?_
  refine g_aload_n C 3 dL_law_446 rfl rfl rfl ?_
  refine g_iload_n C 0 dL_law_447 rfl rfl rfl ?_
  refine g_iconst C (v := 2) dL_law_448 (by decide) rfl ?_
  refine g_iadd C dL_law_449 rfl ?_
  refine g_topi (y := nI (i + 2)) (nI_add i 2) ?_
  refine l_sld C0 (i := i + 2) (by omega) hL dL_law_450 (pc' := 451) rfl ?_
  refine g_aload_n C 3 dL_law_451 rfl rfl rfl ?_
  refine g_iload_n C 0 dL_law_452 rfl rfl rfl ?_
  refine g_iconst C (v := 3) dL_law_453 (by decide) rfl ?_
  refine g_iadd C dL_law_454 rfl ?_
  refine g_topi (y := nI (i + 3)) (nI_add i 3) ?_
  refine l_sld C0 (i := i + 3) (by omega) hL dL_law_455 (pc' := 456) rfl ?_
  refine g_callVl C (As := [.int (xs (i + 1)), .int (xs (i + 2)), .int (xs (i + 3))]) (q := (RX12, TX12, 36)) (k_X12_likely l D s.heap.size z hM hR (hI.2.2.2.2.1) (hI.2.2.2.1) (hI.2.2.2.2.2.2.2.2.1) (hI.1) ((fun g => (hG.t g).w 1)) (xs (i + 1)) (xs (i + 2)) (xs (i + 3))) hw_L_65 (hM) rfl (by decide) rfl rfl (Nat.le_of_ble_eq_true rfl) ⟨hkR, hnR⟩ dL_law_456 (pc' := 459) rfl ?_
  rintro r2 h9 ⟨er2, e9⟩
  subst h9
  have heq : r1 = r2 := er1.trans ((eLikely hI hG.t (xs (i + 1)) (xs (i + 2)) (xs (i + 3))).trans er2.symm)
  refine g_lcmp C dL_law_459 (pc' := 460) rfl ?_
  refine g_if_eq C dL_law_460 (tgt := 746) (by decide) (pc' := 463) rfl (fun _ => ?_) (fun q => absurd (lcz heq) q)
  exact back σ h z k n hC ⟨s18, s19, s20, s23, s24, s35, f21, f22, hM, hR⟩ hG hz (by omega) (by omega) (by omega)
set_option maxHeartbeats 4000000 in
set_option maxRecDepth 100000 in
theorem lw_likeliest {D : va_G} {p : Program} {l : Launch} {e : Env} {s : State} {m : MethodId} {b : Nat} {below : List Frame} {meth : Method} {c : Code} {L : Nat} {xs : Nat → Int32} (hL : L ≤ 2048) (C0 : lw_At p s m meth c b L xs) (hK : qK D s) {k n z i x mm : Nat} {h : qH} {σ : sg} (hi : i + 4 ≤ L) (hmm : mm = x + 118) (hC : Cls D h x σ) (hMd : MdlAt D h mm σ) (hG : GoodT σ) (hz : x + 134 ≤ z) (hk : k ≤ 200 + i) (hn : n ≤ 1000 + i) (h1i : gN σ 1 ≤ i)
    (back : ∀ (σ1 : sg) (h1 : qH) (z1 k1 n1 : Nat), Cls D h1 x σ1 → MdlAt D h1 mm σ1 → GoodT σ1 → x + 134 ≤ z1 → k1 ≤ 200 + (i + 4) → n1 ≤ 1000 + (i + 4) → gN σ1 1 ≤ i + 4 → qG (lX D p l e s m b below meth c) k1 n1 z1 h1 746 [(3, .int (nI i)), (2, .ref mm), (1, .ref x), (0, .ref b)] []) : qG (lX D p l e s m b below meth c) k n z h 465 [(3, .int (nI i)), (2, .ref mm), (1, .ref x), (0, .ref b)] [] := by
  have C := lC (l := l) (e := e) (below := below) C0 hK
  have hI := hC.1
  have hkR : k ≤ room_1.cells := Nat.le_trans (show k ≤ 653995 by omega) (Nat.le_refl _)
  have hnR : n ≤ room_1.slots := Nat.le_trans (show n ≤ 7140263 by omega) (Nat.le_refl _)
  refine g_aload_n C 2 dL_law_465 rfl rfl rfl ?_
  refine g_callVi C (As := []) (q := (RX11, TX11, 8)) (k_X11_likeliest l D s.heap.size z hC  ) hw_L_66 (hC.2.1) rfl (by decide) rfl rfl (Nat.le_of_ble_eq_true rfl) ⟨hkR, hnR⟩ dL_law_466 (pc' := 469) rfl ?_
  rintro r1 h9 ⟨er1, e9⟩
  subst h9
  obtain ⟨s18, s19, s20, s23, s24, s35, f21, f22, hM, hR⟩ := hMd
  refine g_aload_n C 1 dL_law_469 rfl rfl rfl ?_
  refine g_callVi C (As := []) (q := (RX12, TX12, 36)) (k_X12_likeliest l D s.heap.size z hM hR (hI.1) (hI.2.2.2.2.1) ) hw_L_69 (hM) rfl (by decide) rfl rfl (Nat.le_of_ble_eq_true rfl) ⟨hkR, hnR⟩ dL_law_470 (pc' := 473) rfl ?_
  rintro r2 h9 ⟨er2, e9⟩
  subst h9
  have heq : r1 = r2 := er1.trans ((eLikeliest hI hG.t).trans er2.symm)
  refine g_icmp_eq C dL_law_473 (tgt := 746) (by decide) (pc' := 476) rfl (fun _ => ?_) (fun q => absurd heq q)
  exact back σ h z k n hC ⟨s18, s19, s20, s23, s24, s35, f21, f22, hM, hR⟩ hG hz (by omega) (by omega) (by omega)
set_option maxHeartbeats 4000000 in
set_option maxRecDepth 100000 in
theorem lw_ways {D : va_G} {p : Program} {l : Launch} {e : Env} {s : State} {m : MethodId} {b : Nat} {below : List Frame} {meth : Method} {c : Code} {L : Nat} {xs : Nat → Int32} (hL : L ≤ 2048) (C0 : lw_At p s m meth c b L xs) (hK : qK D s) {k n z i x mm : Nat} {h : qH} {σ : sg} (hi : i + 4 ≤ L) (hmm : mm = x + 118) (hC : Cls D h x σ) (hMd : MdlAt D h mm σ) (hG : GoodT σ) (hz : x + 134 ≤ z) (hk : k ≤ 200 + i) (hn : n ≤ 1000 + i) (h1i : gN σ 1 ≤ i)
    (back : ∀ (σ1 : sg) (h1 : qH) (z1 k1 n1 : Nat), Cls D h1 x σ1 → MdlAt D h1 mm σ1 → GoodT σ1 → x + 134 ≤ z1 → k1 ≤ 200 + (i + 4) → n1 ≤ 1000 + (i + 4) → gN σ1 1 ≤ i + 4 → qG (lX D p l e s m b below meth c) k1 n1 z1 h1 746 [(3, .int (nI i)), (2, .ref mm), (1, .ref x), (0, .ref b)] []) : qG (lX D p l e s m b below meth c) k n z h 478 [(3, .int (nI i)), (2, .ref mm), (1, .ref x), (0, .ref b)] [] := by
  have C := lC (l := l) (e := e) (below := below) C0 hK
  have hI := hC.1
  have hkR : k ≤ room_1.cells := Nat.le_trans (show k ≤ 653995 by omega) (Nat.le_refl _)
  have hnR : n ≤ room_1.slots := Nat.le_trans (show n ≤ 7140263 by omega) (Nat.le_refl _)
  refine g_aload_n C 2 dL_law_478 rfl rfl rfl ?_
  refine g_callVi C (As := []) (q := (RX11, TX11, 8)) (k_X11_ways l D s.heap.size z hC  ) hw_L_70 (hC.2.1) rfl (by decide) rfl rfl (Nat.le_of_ble_eq_true rfl) ⟨hkR, hnR⟩ dL_law_479 (pc' := 482) rfl ?_
  rintro r1 h9 ⟨er1, e9⟩
  subst h9
  obtain ⟨s18, s19, s20, s23, s24, s35, f21, f22, hM, hR⟩ := hMd
  refine g_aload_n C 1 dL_law_482 rfl rfl rfl ?_
  refine g_callVi C (As := []) (q := (RX12, TX12, 36)) (k_X12_ways l D s.heap.size z hM hR (hI.1) (hI.2.2.2.2.1) ) hw_L_73 (hM) rfl (by decide) rfl rfl (Nat.le_of_ble_eq_true rfl) ⟨hkR, hnR⟩ dL_law_483 (pc' := 486) rfl ?_
  rintro r2 h9 ⟨er2, e9⟩
  subst h9
  have heq : r1 = r2 := er1.trans ((eWays hI).trans er2.symm)
  refine g_icmp_eq C dL_law_486 (tgt := 746) (by decide) (pc' := 489) rfl (fun _ => ?_) (fun q => absurd heq q)
  exact back σ h z k n hC ⟨s18, s19, s20, s23, s24, s35, f21, f22, hM, hR⟩ hG hz (by omega) (by omega) (by omega)
set_option maxHeartbeats 4000000 in
set_option maxRecDepth 100000 in
theorem lw_sure {D : va_G} {p : Program} {l : Launch} {e : Env} {s : State} {m : MethodId} {b : Nat} {below : List Frame} {meth : Method} {c : Code} {L : Nat} {xs : Nat → Int32} (hL : L ≤ 2048) (C0 : lw_At p s m meth c b L xs) (hK : qK D s) {k n z i x mm : Nat} {h : qH} {σ : sg} (hi : i + 4 ≤ L) (hmm : mm = x + 118) (hC : Cls D h x σ) (hMd : MdlAt D h mm σ) (hG : GoodT σ) (hz : x + 134 ≤ z) (hk : k ≤ 200 + i) (hn : n ≤ 1000 + i) (h1i : gN σ 1 ≤ i)
    (back : ∀ (σ1 : sg) (h1 : qH) (z1 k1 n1 : Nat), Cls D h1 x σ1 → MdlAt D h1 mm σ1 → GoodT σ1 → x + 134 ≤ z1 → k1 ≤ 200 + (i + 4) → n1 ≤ 1000 + (i + 4) → gN σ1 1 ≤ i + 4 → qG (lX D p l e s m b below meth c) k1 n1 z1 h1 746 [(3, .int (nI i)), (2, .ref mm), (1, .ref x), (0, .ref b)] []) : qG (lX D p l e s m b below meth c) k n z h 491 [(3, .int (nI i)), (2, .ref mm), (1, .ref x), (0, .ref b)] [] := by
  have C := lC (l := l) (e := e) (below := below) C0 hK
  have hI := hC.1
  have hkR : k ≤ room_1.cells := Nat.le_trans (show k ≤ 653995 by omega) (Nat.le_refl _)
  have hnR : n ≤ room_1.slots := Nat.le_trans (show n ≤ 7140263 by omega) (Nat.le_refl _)
  refine g_aload_n C 2 dL_law_491 rfl rfl rfl ?_
  refine g_aload_n C 3 dL_law_492 rfl rfl rfl ?_
  refine g_iload_n C 0 dL_law_493 rfl rfl rfl ?_
  refine g_iconst C (v := 1) dL_law_494 (by decide) rfl ?_
  refine g_iadd C dL_law_495 rfl ?_
  refine g_topi (y := nI (i + 1)) (nI_add i 1) ?_
  refine l_sld C0 (i := i + 1) (by omega) hL dL_law_496 (pc' := 497) rfl ?_
  refine g_callVi C (As := [.int (xs (i + 1))]) (q := (RX11, TX11, 8)) (k_X11_sure l D s.heap.size z hC  (xs (i + 1))) hw_L_74 (hC.2.1) rfl (by decide) rfl rfl (Nat.le_of_ble_eq_true rfl) ⟨hkR, hnR⟩ dL_law_497 (pc' := 500) rfl ?_
  rintro r1 h9 ⟨er1, e9⟩
  subst h9
  obtain ⟨s18, s19, s20, s23, s24, s35, f21, f22, hM, hR⟩ := hMd
  refine g_aload_n C 1 dL_law_500 rfl rfl rfl ?_
  refine g_aload_n C 3 dL_law_501 rfl rfl rfl ?_
  refine g_iload_n C 0 dL_law_502 rfl rfl rfl ?_
  refine g_iconst C (v := 1) dL_law_503 (by decide) rfl ?_
  refine g_iadd C dL_law_504 rfl ?_
  refine g_topi (y := nI (i + 1)) (nI_add i 1) ?_
  refine l_sld C0 (i := i + 1) (by omega) hL dL_law_505 (pc' := 506) rfl ?_
  refine g_callVi C (As := [.int (xs (i + 1))]) (q := (RX12, TX12, 36)) (k_X12_sure l D s.heap.size z hM hR (hI.1) (hI.2.2.2.2.1) (xs (i + 1))) hw_L_77 (hM) rfl (by decide) rfl rfl (Nat.le_of_ble_eq_true rfl) ⟨hkR, hnR⟩ dL_law_506 (pc' := 509) rfl ?_
  rintro r2 h9 ⟨er2, e9⟩
  subst h9
  have heq : r1 = r2 := er1.trans ((eSure hI (xs (i + 1))).trans er2.symm)
  refine g_icmp_eq C dL_law_509 (tgt := 746) (by decide) (pc' := 512) rfl (fun _ => ?_) (fun q => absurd heq q)
  exact back σ h z k n hC ⟨s18, s19, s20, s23, s24, s35, f21, f22, hM, hR⟩ hG hz (by omega) (by omega) (by omega)
set_option maxHeartbeats 4000000 in
set_option maxRecDepth 100000 in
theorem lw_look {D : va_G} {p : Program} {l : Launch} {e : Env} {s : State} {m : MethodId} {b : Nat} {below : List Frame} {meth : Method} {c : Code} {L : Nat} {xs : Nat → Int32} (hL : L ≤ 2048) (C0 : lw_At p s m meth c b L xs) (hK : qK D s) {k n z i x mm : Nat} {h : qH} {σ : sg} (hi : i + 4 ≤ L) (hmm : mm = x + 118) (hC : Cls D h x σ) (hMd : MdlAt D h mm σ) (hG : GoodT σ) (hz : x + 134 ≤ z) (hk : k ≤ 200 + i) (hn : n ≤ 1000 + i) (h1i : gN σ 1 ≤ i)
    (back : ∀ (σ1 : sg) (h1 : qH) (z1 k1 n1 : Nat), Cls D h1 x σ1 → MdlAt D h1 mm σ1 → GoodT σ1 → x + 134 ≤ z1 → k1 ≤ 200 + (i + 4) → n1 ≤ 1000 + (i + 4) → gN σ1 1 ≤ i + 4 → qG (lX D p l e s m b below meth c) k1 n1 z1 h1 746 [(3, .int (nI i)), (2, .ref mm), (1, .ref x), (0, .ref b)] []) : qG (lX D p l e s m b below meth c) k n z h 514 [(3, .int (nI i)), (2, .ref mm), (1, .ref x), (0, .ref b)] [] := by
  have C := lC (l := l) (e := e) (below := below) C0 hK
  have hI := hC.1
  have hkR : k ≤ room_1.cells := Nat.le_trans (show k ≤ 653995 by omega) (Nat.le_refl _)
  have hnR : n ≤ room_1.slots := Nat.le_trans (show n ≤ 7140263 by omega) (Nat.le_refl _)
  refine g_aload_n C 2 dL_law_514 rfl rfl rfl ?_
  refine g_aload_n C 3 dL_law_515 rfl rfl rfl ?_
  refine g_iload_n C 0 dL_law_516 rfl rfl rfl ?_
  refine g_iconst C (v := 1) dL_law_517 (by decide) rfl ?_
  refine g_iadd C dL_law_518 rfl ?_
  refine g_topi (y := nI (i + 1)) (nI_add i 1) ?_
  refine l_sld C0 (i := i + 1) (by omega) hL dL_law_519 (pc' := 520) rfl ?_
  refine g_aload_n C 3 dL_law_520 rfl rfl rfl ?_
  refine g_iload_n C 0 dL_law_521 rfl rfl rfl ?_
  refine g_iconst C (v := 2) dL_law_522 (by decide) rfl ?_
  refine g_iadd C dL_law_523 rfl ?_
  refine g_topi (y := nI (i + 2)) (nI_add i 2) ?_
  refine l_sld C0 (i := i + 2) (by omega) hL dL_law_524 (pc' := 525) rfl ?_
  refine g_aload_n C 3 dL_law_525 rfl rfl rfl ?_
  refine g_iload_n C 0 dL_law_526 rfl rfl rfl ?_
  refine g_iconst C (v := 3) dL_law_527 (by decide) rfl ?_
  refine g_iadd C dL_law_528 rfl ?_
  refine g_topi (y := nI (i + 3)) (nI_add i 3) ?_
  refine l_sld C0 (i := i + 3) (by omega) hL dL_law_529 (pc' := 530) rfl ?_
  refine g_callVl C (As := [.int (xs (i + 1)), .int (xs (i + 2)), .int (xs (i + 3))]) (q := (RX11, TX11, 8)) (k_X11_look l D s.heap.size z hC  (xs (i + 1)) (xs (i + 2)) (xs (i + 3))) hw_L_78 (hC.2.1) rfl (by decide) rfl rfl (Nat.le_of_ble_eq_true rfl) ⟨hkR, hnR⟩ dL_law_530 (pc' := 533) rfl ?_
  rintro r1 h9 ⟨er1, e9⟩
  subst h9
  obtain ⟨s18, s19, s20, s23, s24, s35, f21, f22, hM, hR⟩ := hMd
  refine g_aload_n C 1 dL_law_533 rfl rfl rfl ?_
  refine g_aload_n C 3 dL_law_534 rfl rfl rfl ?_
  refine g_iload_n C 0 dL_law_535 rfl rfl rfl ?_
  refine g_iconst C (v := 1) dL_law_536 (by decide) rfl ?_
  refine g_iadd C dL_law_537 rfl ?_
  refine g_topi (y := nI (i + 1)) (nI_add i 1) ?_
  refine l_sld C0 (i := i + 1) (by omega) hL dL_law_538 (pc' := 539) rfl ?_
  refine g_aload_n C 3 dL_law_539 rfl rfl rfl ?_
  refine g_iload_n C 0 dL_law_540 rfl rfl rfl ?_
  refine g_iconst C (v := 2) dL_law_541 (by decide) rfl ?_
  refine g_iadd C dL_law_542 rfl ?_
  refine g_topi (y := nI (i + 2)) (nI_add i 2) ?_
  refine l_sld C0 (i := i + 2) (by omega) hL dL_law_543 (pc' := 544) rfl ?_
  refine g_aload_n C 3 dL_law_544 rfl rfl rfl ?_
  refine g_iload_n C 0 dL_law_545 rfl rfl rfl ?_
  refine g_iconst C (v := 3) dL_law_546 (by decide) rfl ?_
  refine g_iadd C dL_law_547 rfl ?_
  refine g_topi (y := nI (i + 3)) (nI_add i 3) ?_
  refine l_sld C0 (i := i + 3) (by omega) hL dL_law_548 (pc' := 549) rfl ?_
  refine g_callVl C (As := [.int (xs (i + 1)), .int (xs (i + 2)), .int (xs (i + 3))]) (q := (RX12, TX12, 36)) (k_X12_look l D s.heap.size z hM hR (hI.2.2.2.2.1) (hI.2.2.2.1) (hI.2.2.2.2.2.2.2.2.1) (hI.1) ((fun g => (hG.t g).w 1)) (xs (i + 1)) (xs (i + 2)) (xs (i + 3))) hw_L_81 (hM) rfl (by decide) rfl rfl (Nat.le_of_ble_eq_true rfl) ⟨hkR, hnR⟩ dL_law_549 (pc' := 552) rfl ?_
  rintro r2 h9 ⟨er2, e9⟩
  subst h9
  have heq : r1 = r2 := er1.trans ((eLook hI hG.t (xs (i + 1)) (xs (i + 2)) (xs (i + 3))).trans er2.symm)
  refine g_lcmp C dL_law_552 (pc' := 553) rfl ?_
  refine g_if_eq C dL_law_553 (tgt := 746) (by decide) (pc' := 556) rfl (fun _ => ?_) (fun q => absurd (lcz heq) q)
  exact back σ h z k n hC ⟨s18, s19, s20, s23, s24, s35, f21, f22, hM, hR⟩ hG hz (by omega) (by omega) (by omega)
set_option maxHeartbeats 4000000 in
set_option maxRecDepth 100000 in
theorem lw_wrong {D : va_G} {p : Program} {l : Launch} {e : Env} {s : State} {m : MethodId} {b : Nat} {below : List Frame} {meth : Method} {c : Code} {L : Nat} {xs : Nat → Int32} (hL : L ≤ 2048) (C0 : lw_At p s m meth c b L xs) (hK : qK D s) {k n z i x mm : Nat} {h : qH} {σ : sg} (hi : i + 4 ≤ L) (hmm : mm = x + 118) (hC : Cls D h x σ) (hMd : MdlAt D h mm σ) (hG : GoodT σ) (hz : x + 134 ≤ z) (hk : k ≤ 200 + i) (hn : n ≤ 1000 + i) (h1i : gN σ 1 ≤ i)
    (back : ∀ (σ1 : sg) (h1 : qH) (z1 k1 n1 : Nat), Cls D h1 x σ1 → MdlAt D h1 mm σ1 → GoodT σ1 → x + 134 ≤ z1 → k1 ≤ 200 + (i + 4) → n1 ≤ 1000 + (i + 4) → gN σ1 1 ≤ i + 4 → qG (lX D p l e s m b below meth c) k1 n1 z1 h1 746 [(3, .int (nI i)), (2, .ref mm), (1, .ref x), (0, .ref b)] []) : qG (lX D p l e s m b below meth c) k n z h 604 [(3, .int (nI i)), (2, .ref mm), (1, .ref x), (0, .ref b)] [] := by
  have C := lC (l := l) (e := e) (below := below) C0 hK
  have hI := hC.1
  have hkR : k ≤ room_1.cells := Nat.le_trans (show k ≤ 653995 by omega) (Nat.le_refl _)
  have hnR : n ≤ room_1.slots := Nat.le_trans (show n ≤ 7140263 by omega) (Nat.le_refl _)
  refine g_aload_n C 2 dL_law_604 rfl rfl rfl ?_
  refine g_aload_n C 3 dL_law_605 rfl rfl rfl ?_
  refine g_iload_n C 0 dL_law_606 rfl rfl rfl ?_
  refine g_iconst C (v := 1) dL_law_607 (by decide) rfl ?_
  refine g_iadd C dL_law_608 rfl ?_
  refine g_topi (y := nI (i + 1)) (nI_add i 1) ?_
  refine l_sld C0 (i := i + 1) (by omega) hL dL_law_609 (pc' := 610) rfl ?_
  refine g_callVi C (As := [.int (xs (i + 1))]) (q := (RX11, TX11, 8)) (k_X11_wrong l D s.heap.size z hC  (xs (i + 1))) hw_L_90 (hC.2.1) rfl (by decide) rfl rfl (Nat.le_of_ble_eq_true rfl) ⟨hkR, hnR⟩ dL_law_610 (pc' := 613) rfl ?_
  rintro r1 h9 ⟨er1, e9⟩
  subst h9
  obtain ⟨s18, s19, s20, s23, s24, s35, f21, f22, hM, hR⟩ := hMd
  refine g_aload_n C 1 dL_law_613 rfl rfl rfl ?_
  refine g_aload_n C 3 dL_law_614 rfl rfl rfl ?_
  refine g_iload_n C 0 dL_law_615 rfl rfl rfl ?_
  refine g_iconst C (v := 1) dL_law_616 (by decide) rfl ?_
  refine g_iadd C dL_law_617 rfl ?_
  refine g_topi (y := nI (i + 1)) (nI_add i 1) ?_
  refine l_sld C0 (i := i + 1) (by omega) hL dL_law_618 (pc' := 619) rfl ?_
  refine g_callVi C (As := [.int (xs (i + 1))]) (q := (RX12, TX12, 36)) (k_X12_wrong l D s.heap.size z hM hR (hI.2.2.2.2.2.2.1) (xs (i + 1))) hw_L_93 (hM) rfl (by decide) rfl rfl (Nat.le_of_ble_eq_true rfl) ⟨hkR, hnR⟩ dL_law_619 (pc' := 622) rfl ?_
  rintro r2 h9 ⟨er2, e9⟩
  subst h9
  have heq : r1 = r2 := er1.trans er2.symm
  refine g_icmp_eq C dL_law_622 (tgt := 746) (by decide) (pc' := 625) rfl (fun _ => ?_) (fun q => absurd heq q)
  exact back σ h z k n hC ⟨s18, s19, s20, s23, s24, s35, f21, f22, hM, hR⟩ hG hz (by omega) (by omega) (by omega)
set_option maxHeartbeats 4000000 in
set_option maxRecDepth 100000 in
theorem lw_earliest {D : va_G} {p : Program} {l : Launch} {e : Env} {s : State} {m : MethodId} {b : Nat} {below : List Frame} {meth : Method} {c : Code} {L : Nat} {xs : Nat → Int32} (hL : L ≤ 2048) (C0 : lw_At p s m meth c b L xs) (hK : qK D s) {k n z i x mm : Nat} {h : qH} {σ : sg} (hi : i + 4 ≤ L) (hmm : mm = x + 118) (hC : Cls D h x σ) (hMd : MdlAt D h mm σ) (hG : GoodT σ) (hz : x + 134 ≤ z) (hk : k ≤ 200 + i) (hn : n ≤ 1000 + i) (h1i : gN σ 1 ≤ i)
    (back : ∀ (σ1 : sg) (h1 : qH) (z1 k1 n1 : Nat), Cls D h1 x σ1 → MdlAt D h1 mm σ1 → GoodT σ1 → x + 134 ≤ z1 → k1 ≤ 200 + (i + 4) → n1 ≤ 1000 + (i + 4) → gN σ1 1 ≤ i + 4 → qG (lX D p l e s m b below meth c) k1 n1 z1 h1 746 [(3, .int (nI i)), (2, .ref mm), (1, .ref x), (0, .ref b)] []) : qG (lX D p l e s m b below meth c) k n z h 627 [(3, .int (nI i)), (2, .ref mm), (1, .ref x), (0, .ref b)] [] := by
  have C := lC (l := l) (e := e) (below := below) C0 hK
  have hI := hC.1
  have hkR : k ≤ room_1.cells := Nat.le_trans (show k ≤ 653995 by omega) (Nat.le_refl _)
  have hnR : n ≤ room_1.slots := Nat.le_trans (show n ≤ 7140263 by omega) (Nat.le_refl _)
  refine g_aload_n C 2 dL_law_627 rfl rfl rfl ?_
  refine g_callVi C (As := []) (q := (RX11, TX11, 8)) (k_X11_earliest l D s.heap.size z hC  ) hw_L_94 (hC.2.1) rfl (by decide) rfl rfl (Nat.le_of_ble_eq_true rfl) ⟨hkR, hnR⟩ dL_law_628 (pc' := 631) rfl ?_
  rintro r1 h9 ⟨er1, e9⟩
  subst h9
  obtain ⟨s18, s19, s20, s23, s24, s35, f21, f22, hM, hR⟩ := hMd
  refine g_aload_n C 1 dL_law_631 rfl rfl rfl ?_
  refine g_callVi C (As := []) (q := (RX12, TX12, 36)) (k_X12_earliest l D s.heap.size z hM hR (hI.2.2.2.2.2.2.1) ) hw_L_97 (hM) rfl (by decide) rfl rfl (Nat.le_of_ble_eq_true rfl) ⟨hkR, hnR⟩ dL_law_632 (pc' := 635) rfl ?_
  rintro r2 h9 ⟨er2, e9⟩
  subst h9
  have heq : r1 = r2 := er1.trans er2.symm
  refine g_icmp_eq C dL_law_635 (tgt := 746) (by decide) (pc' := 638) rfl (fun _ => ?_) (fun q => absurd heq q)
  exact back σ h z k n hC ⟨s18, s19, s20, s23, s24, s35, f21, f22, hM, hR⟩ hG hz (by omega) (by omega) (by omega)
set_option maxHeartbeats 4000000 in
set_option maxRecDepth 100000 in
theorem lw_count {D : va_G} {p : Program} {l : Launch} {e : Env} {s : State} {m : MethodId} {b : Nat} {below : List Frame} {meth : Method} {c : Code} {L : Nat} {xs : Nat → Int32} (hL : L ≤ 2048) (C0 : lw_At p s m meth c b L xs) (hK : qK D s) {k n z i x mm : Nat} {h : qH} {σ : sg} (hi : i + 4 ≤ L) (hmm : mm = x + 118) (hC : Cls D h x σ) (hMd : MdlAt D h mm σ) (hG : GoodT σ) (hz : x + 134 ≤ z) (hk : k ≤ 200 + i) (hn : n ≤ 1000 + i) (h1i : gN σ 1 ≤ i)
    (back : ∀ (σ1 : sg) (h1 : qH) (z1 k1 n1 : Nat), Cls D h1 x σ1 → MdlAt D h1 mm σ1 → GoodT σ1 → x + 134 ≤ z1 → k1 ≤ 200 + (i + 4) → n1 ≤ 1000 + (i + 4) → gN σ1 1 ≤ i + 4 → qG (lX D p l e s m b below meth c) k1 n1 z1 h1 746 [(3, .int (nI i)), (2, .ref mm), (1, .ref x), (0, .ref b)] []) : qG (lX D p l e s m b below meth c) k n z h 709 [(3, .int (nI i)), (2, .ref mm), (1, .ref x), (0, .ref b)] [] := by
  have C := lC (l := l) (e := e) (below := below) C0 hK
  have hI := hC.1
  have hkR : k ≤ room_1.cells := Nat.le_trans (show k ≤ 653995 by omega) (Nat.le_refl _)
  have hnR : n ≤ room_1.slots := Nat.le_trans (show n ≤ 7140263 by omega) (Nat.le_refl _)
  refine g_aload_n C 2 dL_law_709 rfl rfl rfl ?_
  refine g_aload_n C 3 dL_law_710 rfl rfl rfl ?_
  refine g_iload_n C 0 dL_law_711 rfl rfl rfl ?_
  refine g_iconst C (v := 1) dL_law_712 (by decide) rfl ?_
  refine g_iadd C dL_law_713 rfl ?_
  refine g_topi (y := nI (i + 1)) (nI_add i 1) ?_
  refine l_sld C0 (i := i + 1) (by omega) hL dL_law_714 (pc' := 715) rfl ?_
  refine g_callVi C (As := [.int (xs (i + 1))]) (q := (RX11, TX11, 8)) (k_X11_count l D s.heap.size z hC  (xs (i + 1))) hw_L_110 (hC.2.1) rfl (by decide) rfl rfl (Nat.le_of_ble_eq_true rfl) ⟨hkR, hnR⟩ dL_law_715 (pc' := 718) rfl ?_
  rintro r1 h9 ⟨er1, e9⟩
  subst h9
  obtain ⟨s18, s19, s20, s23, s24, s35, f21, f22, hM, hR⟩ := hMd
  refine g_aload_n C 1 dL_law_718 rfl rfl rfl ?_
  refine g_aload_n C 3 dL_law_719 rfl rfl rfl ?_
  refine g_iload_n C 0 dL_law_720 rfl rfl rfl ?_
  refine g_iconst C (v := 1) dL_law_721 (by decide) rfl ?_
  refine g_iadd C dL_law_722 rfl ?_
  refine g_topi (y := nI (i + 1)) (nI_add i 1) ?_
  refine l_sld C0 (i := i + 1) (by omega) hL dL_law_723 (pc' := 724) rfl ?_
  refine g_callVi C (As := [.int (xs (i + 1))]) (q := (RX12, TX12, 36)) (k_X12_count l D s.heap.size z hM hR (hI.2.2.2.2.2.1) (xs (i + 1))) hw_L_113 (hM) rfl (by decide) rfl rfl (Nat.le_of_ble_eq_true rfl) ⟨hkR, hnR⟩ dL_law_724 (pc' := 727) rfl ?_
  rintro r2 h9 ⟨er2, e9⟩
  subst h9
  have heq : r1 = r2 := er1.trans er2.symm
  refine g_icmp_eq C dL_law_727 (tgt := 746) (by decide) (pc' := 730) rfl (fun _ => ?_) (fun q => absurd heq q)
  exact back σ h z k n hC ⟨s18, s19, s20, s23, s24, s35, f21, f22, hM, hR⟩ hG hz (by omega) (by omega) (by omega)
set_option maxHeartbeats 4000000 in
set_option maxRecDepth 100000 in
theorem lw_days {D : va_G} {p : Program} {l : Launch} {e : Env} {s : State} {m : MethodId} {b : Nat} {below : List Frame} {meth : Method} {c : Code} {L : Nat} {xs : Nat → Int32} (hL : L ≤ 2048) (C0 : lw_At p s m meth c b L xs) (hK : qK D s) {k n z i x mm : Nat} {h : qH} {σ : sg} (hi : i + 4 ≤ L) (hmm : mm = x + 118) (hC : Cls D h x σ) (hMd : MdlAt D h mm σ) (hG : GoodT σ) (hz : x + 134 ≤ z) (hk : k ≤ 200 + i) (hn : n ≤ 1000 + i) (h1i : gN σ 1 ≤ i)
    (back : ∀ (σ1 : sg) (h1 : qH) (z1 k1 n1 : Nat), Cls D h1 x σ1 → MdlAt D h1 mm σ1 → GoodT σ1 → x + 134 ≤ z1 → k1 ≤ 200 + (i + 4) → n1 ≤ 1000 + (i + 4) → gN σ1 1 ≤ i + 4 → qG (lX D p l e s m b below meth c) k1 n1 z1 h1 746 [(3, .int (nI i)), (2, .ref mm), (1, .ref x), (0, .ref b)] []) : qG (lX D p l e s m b below meth c) k n z h 640 [(3, .int (nI i)), (2, .ref mm), (1, .ref x), (0, .ref b)] [] := by
  have C := lC (l := l) (e := e) (below := below) C0 hK
  have hI := hC.1
  have hkR : k ≤ room_1.cells := Nat.le_trans (show k ≤ 653995 by omega) (Nat.le_refl _)
  have hnR : n ≤ room_1.slots := Nat.le_trans (show n ≤ 7140263 by omega) (Nat.le_refl _)
  refine g_aload_n C 2 dL_law_640 rfl rfl rfl ?_
  refine g_aload_n C 3 dL_law_641 rfl rfl rfl ?_
  refine g_iload_n C 0 dL_law_642 rfl rfl rfl ?_
  refine g_iconst C (v := 1) dL_law_643 (by decide) rfl ?_
  refine g_iadd C dL_law_644 rfl ?_
  refine g_topi (y := nI (i + 1)) (nI_add i 1) ?_
  refine l_sld C0 (i := i + 1) (by omega) hL dL_law_645 (pc' := 646) rfl ?_
  refine g_aload_n C 3 dL_law_646 rfl rfl rfl ?_
  refine g_iload_n C 0 dL_law_647 rfl rfl rfl ?_
  refine g_iconst C (v := 2) dL_law_648 (by decide) rfl ?_
  refine g_iadd C dL_law_649 rfl ?_
  refine g_topi (y := nI (i + 2)) (nI_add i 2) ?_
  refine l_sld C0 (i := i + 2) (by omega) hL dL_law_650 (pc' := 651) rfl ?_
  refine g_aload_n C 3 dL_law_651 rfl rfl rfl ?_
  refine g_iload_n C 0 dL_law_652 rfl rfl rfl ?_
  refine g_iconst C (v := 3) dL_law_653 (by decide) rfl ?_
  refine g_iadd C dL_law_654 rfl ?_
  refine g_topi (y := nI (i + 3)) (nI_add i 3) ?_
  refine l_sld C0 (i := i + 3) (by omega) hL dL_law_655 (pc' := 656) rfl ?_
  refine g_callVi C (As := [.int (xs (i + 1)), .int (xs (i + 2)), .int (xs (i + 3))]) (q := (RX11, TX11, 8)) (k_X11_days l D s.heap.size z hC  (xs (i + 1)) (xs (i + 2)) (xs (i + 3))) hw_L_98 (hC.2.1) rfl (by decide) rfl rfl (Nat.le_of_ble_eq_true rfl) ⟨hkR, hnR⟩ dL_law_656 (pc' := 659) rfl ?_
  rintro r1 h1 ⟨⟨er1, hC⟩, fr1⟩
  replace hMd := hMd.fr (fun q g1 g2 => fr1 q (by omega) (by omega))
  obtain ⟨s18, s19, s20, s23, s24, s35, f21, f22, hM, hR⟩ := hMd
  refine g_aload_n C 1 dL_law_659 rfl rfl rfl ?_
  refine g_aload_n C 3 dL_law_660 rfl rfl rfl ?_
  refine g_iload_n C 0 dL_law_661 rfl rfl rfl ?_
  refine g_iconst C (v := 1) dL_law_662 (by decide) rfl ?_
  refine g_iadd C dL_law_663 rfl ?_
  refine g_topi (y := nI (i + 1)) (nI_add i 1) ?_
  refine l_sld C0 (i := i + 1) (by omega) hL dL_law_664 (pc' := 665) rfl ?_
  refine g_aload_n C 3 dL_law_665 rfl rfl rfl ?_
  refine g_iload_n C 0 dL_law_666 rfl rfl rfl ?_
  refine g_iconst C (v := 2) dL_law_667 (by decide) rfl ?_
  refine g_iadd C dL_law_668 rfl ?_
  refine g_topi (y := nI (i + 2)) (nI_add i 2) ?_
  refine l_sld C0 (i := i + 2) (by omega) hL dL_law_669 (pc' := 670) rfl ?_
  refine g_aload_n C 3 dL_law_670 rfl rfl rfl ?_
  refine g_iload_n C 0 dL_law_671 rfl rfl rfl ?_
  refine g_iconst C (v := 3) dL_law_672 (by decide) rfl ?_
  refine g_iadd C dL_law_673 rfl ?_
  refine g_topi (y := nI (i + 3)) (nI_add i 3) ?_
  refine l_sld C0 (i := i + 3) (by omega) hL dL_law_674 (pc' := 675) rfl ?_
  refine g_callVi C (As := [.int (xs (i + 1)), .int (xs (i + 2)), .int (xs (i + 3))]) (q := (RX12, TX12, 36)) (k_X12_days l D s.heap.size z hI.1 hI.2.2.2.2.1 hI.2.1 hI.2.2.2.2.2.2.2.2.1 hI.2.2.2.1 hI.2.2.2.2.2.1 hI.2.2.1 (xs (i + 1)) (xs (i + 2)) (xs (i + 3)) hM hR) hw_L_101 (hM) rfl (by decide) rfl rfl (Nat.le_of_ble_eq_true rfl) ⟨hkR, hnR⟩ dL_law_675 (pc' := 678) rfl ?_
  rintro r2 h2 ⟨er2, hMd, fr2⟩
  replace hC := hC.fr (fun q g => fr2 q (by omega))
  have heq : r1 = r2 := er1.trans ((eDays hI hG (xs (i + 1)) (xs (i + 2)) (xs (i + 3))).trans er2.symm)
  refine g_icmp_eq C dL_law_678 (tgt := 746) (by decide) (pc' := 681) rfl (fun _ => ?_) (fun q => absurd heq q)
  exact back σ h2 z k n hC hMd hG hz (by omega) (by omega) (by omega)
set_option maxHeartbeats 4000000 in
set_option maxRecDepth 100000 in
theorem lw_digest {D : va_G} {p : Program} {l : Launch} {e : Env} {s : State} {m : MethodId} {b : Nat} {below : List Frame} {meth : Method} {c : Code} {L : Nat} {xs : Nat → Int32} (hL : L ≤ 2048) (C0 : lw_At p s m meth c b L xs) (hK : qK D s) {k n z i x mm : Nat} {h : qH} {σ : sg} (hi : i + 4 ≤ L) (hmm : mm = x + 118) (hC : Cls D h x σ) (hMd : MdlAt D h mm σ) (hG : GoodT σ) (hz : x + 134 ≤ z) (hk : k ≤ 200 + i) (hn : n ≤ 1000 + i) (h1i : gN σ 1 ≤ i)
    (back : ∀ (σ1 : sg) (h1 : qH) (z1 k1 n1 : Nat), Cls D h1 x σ1 → MdlAt D h1 mm σ1 → GoodT σ1 → x + 134 ≤ z1 → k1 ≤ 200 + (i + 4) → n1 ≤ 1000 + (i + 4) → gN σ1 1 ≤ i + 4 → qG (lX D p l e s m b below meth c) k1 n1 z1 h1 746 [(3, .int (nI i)), (2, .ref mm), (1, .ref x), (0, .ref b)] []) : qG (lX D p l e s m b below meth c) k n z h 732 [(3, .int (nI i)), (2, .ref mm), (1, .ref x), (0, .ref b)] [] := by
  have C := lC (l := l) (e := e) (below := below) C0 hK
  have hI := hC.1
  have hkR : k ≤ room_1.cells := Nat.le_trans (show k ≤ 653995 by omega) (Nat.le_refl _)
  have hnR : n ≤ room_1.slots := Nat.le_trans (show n ≤ 7140263 by omega) (Nat.le_refl _)
  refine g_aload_n C 2 dL_law_732 rfl rfl rfl ?_
  refine g_callVl C (As := []) (q := (RX11, TX11, 8)) (k_X11_digest l D s.heap.size z hC  ) hw_L_114 (hC.2.1) rfl (by decide) rfl rfl (Nat.le_of_ble_eq_true rfl) ⟨hkR, hnR⟩ dL_law_733 (pc' := 736) rfl ?_
  rintro r1 h9 ⟨er1, e9⟩
  subst h9
  obtain ⟨s18, s19, s20, s23, s24, s35, f21, f22, hM, hR⟩ := hMd
  refine g_aload_n C 1 dL_law_736 rfl rfl rfl ?_
  refine g_callVl C (As := []) (q := (RX12, TX12, 36)) (k_X12_digest l D s.heap.size z hM hR (hI.1) (hI.2.2.2.2.1) (hI.2.2.2.1) (hI.2.2.2.2.2.2.2.2.1) (hI.2.2.2.2.2.2.1) (hI.2.2.2.2.2.2.2.1) (hI.2.2.2.2.2.1) ((fun g => (hG.t g).w 1)) ) hw_L_118 (hM) rfl (by decide) rfl rfl (Nat.le_of_ble_eq_true rfl) ⟨hkR, hnR⟩ dL_law_737 (pc' := 740) rfl ?_
  rintro r2 h2 ⟨er2, hMd, fr2⟩
  replace hC := hC.fr (fun q g => fr2 q (by omega))
  have heq : r1 = r2 := er1.trans ((eDigest hI hG.t).trans er2.symm)
  refine g_lcmp C dL_law_740 (pc' := 741) rfl ?_
  refine g_if_eq C dL_law_741 (tgt := 746) (by decide) (pc' := 744) rfl (fun _ => ?_) (fun q => absurd (lcz heq) q)
  exact back σ h2 z k n hC hMd hG hz (by omega) (by omega) (by omega)

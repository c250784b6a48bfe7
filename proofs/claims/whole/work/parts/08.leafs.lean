/-! statics of EarlyGauge, the page, the station: leaves -/
theorem vpi {k : Int32} {N : Nat} (hN : N < 2 ^ 31) (h0 : ¬ k < 0) (h1 : ¬ nI N ≤ k) : vp_in k N := by
  obtain ⟨j, hj, rfl⟩ := nI_of h0
  exact vp_in_nI (by rw [nI_leI hN hj] at h1; omega) hN
theorem nI_sub' {a b : Nat} (h : b ≤ a) : nI a - nI b = nI (a - b) := pk_sub h
theorem rem_nI {a d : Nat} (ha : a < 2 ^ 31) (h0 : 0 < d) (hd : d < 2 ^ 31) : nI a - nI a / nI d * nI d = nI (a % d) := pk_rem ha h0 hd
def F_isWeather (x : Int32) : Int32 := (if (x) < 0 then (0) else (if 3 ≤ (x) then (0) else (1)))
set_option maxHeartbeats 4000000 in
set_option maxRecDepth 100000 in
theorem k_X11_isWeather (l : Launch) (D : va_G) (b z : Nat) (h : qH) (x : Int32) : qMi l D b yX11_isWeather cX11_isWeather 1 .boolean 0 0 [.int (x)] h z (fun r h' => r = F_isWeather x ∧ h' = h) := by
  refine q_i (L := [(0, .int (x))]) (own := RX11) (by decide) rfl (Nat.le_of_ble_eq_true rfl) rfl ?_
  intro X C ret
  refine g_iload_n C 0 dX11_isWeather_0 rfl rfl rfl ?_
  refine g_if_lt C dX11_isWeather_1 (tgt := 13) (by decide) (pc' := 4) rfl ?_ ?_
  · intro c1
    refine g_iconst C (v := 0) dX11_isWeather_13 (by decide) rfl ?_
    exact ret _ _ _ _ dX11_isWeather_14 rfl (⟨by simp only [F_isWeather, if_pos c1], rfl⟩)
  · intro c1
    refine g_iload_n C 0 dX11_isWeather_4 rfl rfl rfl ?_
    refine g_iconst C (v := 3) dX11_isWeather_5 (by decide) rfl ?_
    refine g_icmp_ge C dX11_isWeather_6 (tgt := 13) (by decide) (pc' := 9) rfl ?_ ?_
    · intro c6
      refine g_iconst C (v := 0) dX11_isWeather_13 (by decide) rfl ?_
      exact ret _ _ _ _ dX11_isWeather_14 rfl (⟨by simp only [F_isWeather, if_neg c1, if_pos c6], rfl⟩)
    · intro c6
      refine g_iconst C (v := 1) dX11_isWeather_9 (by decide) rfl ?_
      refine g_goto C dX11_isWeather_10 (tgt := 14) (by decide) ?_
      exact ret _ _ _ _ dX11_isWeather_14 rfl (⟨by simp only [F_isWeather, if_neg c1, if_neg c6], rfl⟩)
def F_isAhead (x : Int32) : Int32 := (if (x) < 1 then (0) else (if 6 < (x) then (0) else (1)))
set_option maxHeartbeats 4000000 in
set_option maxRecDepth 100000 in
theorem k_X11_isAhead (l : Launch) (D : va_G) (b z : Nat) (h : qH) (x : Int32) : qMi l D b yX11_isAhead cX11_isAhead 1 .boolean 0 0 [.int (x)] h z (fun r h' => r = F_isAhead x ∧ h' = h) := by
  refine q_i (L := [(0, .int (x))]) (own := RX11) (by decide) rfl (Nat.le_of_ble_eq_true rfl) rfl ?_
  intro X C ret
  refine g_iload_n C 0 dX11_isAhead_0 rfl rfl rfl ?_
  refine g_iconst C (v := 1) dX11_isAhead_1 (by decide) rfl ?_
  refine g_icmp_lt C dX11_isAhead_2 (tgt := 15) (by decide) (pc' := 5) rfl ?_ ?_
  · intro c2
    refine g_iconst C (v := 0) dX11_isAhead_15 (by decide) rfl ?_
    exact ret _ _ _ _ dX11_isAhead_16 rfl (⟨by simp only [F_isAhead, if_pos c2], rfl⟩)
  · intro c2
    refine g_iload_n C 0 dX11_isAhead_5 rfl rfl rfl ?_
    refine g_bipush C (v := 6) dX11_isAhead_6 (by decide) rfl ?_
    refine g_icmp_gt C dX11_isAhead_8 (tgt := 15) (by decide) (pc' := 11) rfl ?_ ?_
    · intro c8
      refine g_iconst C (v := 0) dX11_isAhead_15 (by decide) rfl ?_
      exact ret _ _ _ _ dX11_isAhead_16 rfl (⟨by simp only [F_isAhead, if_neg c2, if_pos c8], rfl⟩)
    · intro c8
      refine g_iconst C (v := 1) dX11_isAhead_11 (by decide) rfl ?_
      refine g_goto C dX11_isAhead_12 (tgt := 16) (by decide) ?_
      exact ret _ _ _ _ dX11_isAhead_16 rfl (⟨by simp only [F_isAhead, if_neg c2, if_neg c8], rfl⟩)
def F_isPart (x : Int32) : Int32 := (if (x) = 0 then (1) else (if (x) = 1 then (1) else (0)))
set_option maxHeartbeats 4000000 in
set_option maxRecDepth 100000 in
theorem k_X11_isPart (l : Launch) (D : va_G) (b z : Nat) (h : qH) (x : Int32) : qMi l D b yX11_isPart cX11_isPart 1 .boolean 0 0 [.int (x)] h z (fun r h' => r = F_isPart x ∧ h' = h) := by
  refine q_i (L := [(0, .int (x))]) (own := RX11) (by decide) rfl (Nat.le_of_ble_eq_true rfl) rfl ?_
  intro X C ret
  refine g_iload_n C 0 dX11_isPart_0 rfl rfl rfl ?_
  refine g_if_eq C dX11_isPart_1 (tgt := 9) (by decide) (pc' := 4) rfl ?_ ?_
  · intro c1
    refine g_iconst C (v := 1) dX11_isPart_9 (by decide) rfl ?_
    refine g_goto C dX11_isPart_10 (tgt := 14) (by decide) ?_
    exact ret _ _ _ _ dX11_isPart_14 rfl (⟨by simp only [F_isPart, if_pos c1], rfl⟩)
  · intro c1
    refine g_iload_n C 0 dX11_isPart_4 rfl rfl rfl ?_
    refine g_iconst C (v := 1) dX11_isPart_5 (by decide) rfl ?_
    refine g_icmp_ne C dX11_isPart_6 (tgt := 13) (by decide) (pc' := 9) rfl ?_ ?_
    · intro c6
      refine g_iconst C (v := 0) dX11_isPart_13 (by decide) rfl ?_
      exact ret _ _ _ _ dX11_isPart_14 rfl (⟨by simp only [F_isPart, if_neg c1, if_neg c6], rfl⟩)
    · intro c6
      refine g_iconst C (v := 1) dX11_isPart_9 (by decide) rfl ?_
      refine g_goto C dX11_isPart_10 (tgt := 14) (by decide) ?_
      exact ret _ _ _ _ dX11_isPart_14 rfl (⟨by simp only [F_isPart, if_neg c1, if_pos c6], rfl⟩)
def F_isPrice (x : Int32) : Int32 := (if (x) < 1 then (0) else (if 9 < (x) then (0) else (1)))
set_option maxHeartbeats 4000000 in
set_option maxRecDepth 100000 in
theorem k_X11_isPrice (l : Launch) (D : va_G) (b z : Nat) (h : qH) (x : Int32) : qMi l D b yX11_isPrice cX11_isPrice 1 .boolean 0 0 [.int (x)] h z (fun r h' => r = F_isPrice x ∧ h' = h) := by
  refine q_i (L := [(0, .int (x))]) (own := RX11) (by decide) rfl (Nat.le_of_ble_eq_true rfl) rfl ?_
  intro X C ret
  refine g_iload_n C 0 dX11_isPrice_0 rfl rfl rfl ?_
  refine g_iconst C (v := 1) dX11_isPrice_1 (by decide) rfl ?_
  refine g_icmp_lt C dX11_isPrice_2 (tgt := 15) (by decide) (pc' := 5) rfl ?_ ?_
  · intro c2
    refine g_iconst C (v := 0) dX11_isPrice_15 (by decide) rfl ?_
    exact ret _ _ _ _ dX11_isPrice_16 rfl (⟨by simp only [F_isPrice, if_pos c2], rfl⟩)
  · intro c2
    refine g_iload_n C 0 dX11_isPrice_5 rfl rfl rfl ?_
    refine g_bipush C (v := 9) dX11_isPrice_6 (by decide) rfl ?_
    refine g_icmp_gt C dX11_isPrice_8 (tgt := 15) (by decide) (pc' := 11) rfl ?_ ?_
    · intro c8
      refine g_iconst C (v := 0) dX11_isPrice_15 (by decide) rfl ?_
      exact ret _ _ _ _ dX11_isPrice_16 rfl (⟨by simp only [F_isPrice, if_neg c2, if_pos c8], rfl⟩)
    · intro c8
      refine g_iconst C (v := 1) dX11_isPrice_11 (by decide) rfl ?_
      refine g_goto C dX11_isPrice_12 (tgt := 16) (by decide) ?_
      exact ret _ _ _ _ dX11_isPrice_16 rfl (⟨by simp only [F_isPrice, if_neg c2, if_neg c8], rfl⟩)
set_option maxHeartbeats 4000000 in
set_option maxRecDepth 100000 in
theorem k_X8_codeAt (l : Launch) (D : va_G) (b z : Nat) {h : qH} {a : Nat} {cs : Nat → Int32} {n : Nat} (hn : n ≤ 16) (hPg : PgAt D h a cs (nI n)) {k : Nat} (hk : k < n) : qMi l D b yX8_codeAt cX8_codeAt 2 .int 0 0 [.ref (a), .int (nI (k))] h z (fun r h' => r = cs k ∧ h' = h) := by
  refine q_i (L := [(0, .ref (a)), (1, .int (nI (k)))]) (own := RX8) (by decide) rfl (Nat.le_of_ble_eq_true rfl) rfl ?_
  intro X C ret
  refine g_iload_n C 1 dX8_codeAt_0 rfl rfl rfl ?_
  refine g_if_lt C dX8_codeAt_1 (tgt := 27) (by decide) (pc' := 4) rfl ?_ ?_
  · intro c1
    replace c1 := (nI_ltI (a := k) (b := 0) (by omega) (by omega)).mp c1
    omega
  · intro c1
    replace c1 := (not_congr (nI_ltI (a := k) (b := 0) (by omega) (by omega))).mp c1
    refine g_iload_n C 1 dX8_codeAt_4 rfl rfl rfl ?_
    refine g_aload_n C 0 dX8_codeAt_5 rfl rfl rfl ?_
    refine gf_8_15 C (hPg.1) (v := .int (nI (n))) rfl dX8_codeAt_6 rfl ?_
    refine g_icmp_ge C dX8_codeAt_9 (tgt := 27) (by decide) (pc' := 12) rfl ?_ ?_
    · intro c9
      replace c9 := (nI_leI (a := n) (b := k) (by omega) (by omega)).mp c9
      omega
    · intro c9
      replace c9 := (not_congr (nI_leI (a := n) (b := k) (by omega) (by omega))).mp c9
      refine g_iload_n C 1 dX8_codeAt_12 rfl rfl rfl ?_
      refine g_bipush C (v := 16) dX8_codeAt_13 (by decide) rfl ?_
      refine g_icmp_ge C dX8_codeAt_15 (tgt := 27) (by decide) (pc' := 18) rfl ?_ ?_
      · intro c15
        replace c15 := (nI_leI (a := 16) (b := k) (by omega) (by omega)).mp c15
        omega
      · intro c15
        replace c15 := (not_congr (nI_leI (a := 16) (b := k) (by omega) (by omega))).mp c15
        refine g_aload_n C 0 dX8_codeAt_18 rfl rfl rfl ?_
        refine gf_8_11 C (hPg.1) (v := .ref (a + 1)) rfl dX8_codeAt_19 rfl ?_
        refine g_iload_n C 1 dX8_codeAt_22 rfl rfl rfl ?_
        refine g_iald' C (hPg.2) (j := k) rfl (by omega) (by decide) dX8_codeAt_23 rfl ?_
        refine g_goto C dX8_codeAt_24 (tgt := 28) (by decide) ?_
        exact ret _ _ _ _ dX8_codeAt_28 rfl (⟨rfl, rfl⟩)
def F_dg (c : Int32) : Int32 := (if (cs k) < 48 then ((-1)) else (if 57 < (cs k) then ((-1)) else ((cs k) - (48))))
set_option maxHeartbeats 4000000 in
set_option maxRecDepth 100000 in
theorem k_X8_digitAt (l : Launch) (D : va_G) (b z : Nat) {h : qH} {a : Nat} {cs : Nat → Int32} {n : Nat} (hn : n ≤ 16) (hPg : PgAt D h a cs (nI n)) {k : Nat} (hk : k < n) : qMi l D b yX8_digitAt cX8_digitAt 3 .int 1 21 [.ref (a), .int (nI (k))] h z (fun r h' => r = F_dg (cs k) ∧ h' = h) := by
  refine q_i (L := [(0, .ref (a)), (1, .int (nI (k)))]) (own := RX8) (by decide) rfl (Nat.le_of_ble_eq_true rfl) rfl ?_
  intro X C ret
  refine g_aload_n C 0 dX8_digitAt_0 rfl rfl rfl ?_
  refine g_iload_n C 1 dX8_digitAt_1 rfl rfl rfl ?_
  refine g_callVi C (As := [.int (nI (k))]) (q := (RX8, TX8, 2)) (k_X8_codeAt l D b z hn hPg (k := k) (by omega)) hw_8_19 (hPg.1) rfl (by decide) rfl rfl (Nat.le_of_ble_eq_true rfl) ⟨Nat.zero_le _, Nat.zero_le _⟩ dX8_digitAt_2 (pc' := 5) rfl ?_
  rintro r1 h9 ⟨er, e9⟩
  subst h9; subst er
  refine g_istore_n C ([(2, .int (cs k)), (0, .ref (a)), (1, .int (nI (k)))]) dX8_digitAt_5 rfl (by decide) rfl rfl ?_
  refine g_iload_n C 0 dX8_digitAt_6 rfl rfl rfl ?_
  refine g_bipush C (v := 48) dX8_digitAt_7 (by decide) rfl ?_
  refine g_icmp_lt C dX8_digitAt_9 (tgt := 25) (by decide) (pc' := 12) rfl ?_ ?_
  · intro c9
    refine g_iconst C (v := -1) dX8_digitAt_25 (by decide) rfl ?_
    exact ret _ _ _ _ dX8_digitAt_26 rfl (⟨by simp only [F_dg, if_pos c9], rfl⟩)
  · intro c9
    refine g_iload_n C 0 dX8_digitAt_12 rfl rfl rfl ?_
    refine g_bipush C (v := 57) dX8_digitAt_13 (by decide) rfl ?_
    refine g_icmp_gt C dX8_digitAt_15 (tgt := 25) (by decide) (pc' := 18) rfl ?_ ?_
    · intro c15
      refine g_iconst C (v := -1) dX8_digitAt_25 (by decide) rfl ?_
      exact ret _ _ _ _ dX8_digitAt_26 rfl (⟨by simp only [F_dg, if_neg c9, if_pos c15], rfl⟩)
    · intro c15
      refine g_iload_n C 0 dX8_digitAt_18 rfl rfl rfl ?_
      refine g_bipush C (v := 48) dX8_digitAt_19 (by decide) rfl ?_
      refine g_isub C dX8_digitAt_21 rfl ?_
      refine g_goto C dX8_digitAt_22 (tgt := 26) (by decide) ?_
      exact ret _ _ _ _ dX8_digitAt_26 rfl (⟨by simp only [F_dg, if_neg c9, if_neg c15], rfl⟩)

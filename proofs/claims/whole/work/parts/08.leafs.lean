/-! statics of EarlyGauge, the page, the station, the book: leaves -/
theorem vpi {k : Int32} {N : Nat} (hN : N < 2 ^ 31) (h0 : ¬ k < 0) (h1 : ¬ nI N ≤ k) : vp_in k N := by
  obtain ⟨j, hj, rfl⟩ := nI_of h0
  exact vp_in_nI (by rw [nI_leI hN hj] at h1; omega) hN
theorem nI_sub' {a b : Nat} (h : b ≤ a) : nI a - nI b = nI (a - b) := pk_sub h
theorem rem_nI {a d : Nat} (ha : a < 2 ^ 31) (h0 : 0 < d) (hd : d < 2 ^ 31) : nI a - nI a / nI d * nI d = nI (a % d) := pk_rem ha h0 hd
def F_isWeather (x : Int32) : Int32 := (if (x) < 0 then (0) else (if 3 ≤ (x) then (0) else (1)))
set_option maxHeartbeats 4000000 in
set_option maxRecDepth 100000 in
theorem k_X11_isWeather (l : Launch) (D : va_G) (b z : Nat) (h : qH) (x : Int32) : qMi l D b yX11_isWeather cX11_isWeather 1 .boolean 0 0 [.int (x)] h z (fun r h' => r = F_isWeather x ∧ h' = h) := by
  refine q_i (L := [(0, .int (x))]) (own := RX11) (by decide) rfl (Nat.le_of_ble_eq_true rfl) rfl ?_
  intro X C ret
  refine g_iload_n C 0 dX11_isWeather_0 rfl rfl rfl ?_
  refine g_if_lt C dX11_isWeather_1 (tgt := 13) (by decide) (pc' := 4) rfl ?_ ?_
  · intro c1
    refine g_iconst C (v := 0) dX11_isWeather_13 (by decide) rfl ?_
    exact ret _ _ _ _ dX11_isWeather_14 rfl (⟨by simp only [F_isWeather, if_pos c1], rfl⟩)
  · intro c1
    refine g_iload_n C 0 dX11_isWeather_4 rfl rfl rfl ?_
    refine g_iconst C (v := 3) dX11_isWeather_5 (by decide) rfl ?_
    refine g_icmp_ge C dX11_isWeather_6 (tgt := 13) (by decide) (pc' := 9) rfl ?_ ?_
    · intro c6
      refine g_iconst C (v := 0) dX11_isWeather_13 (by decide) rfl ?_
      exact ret _ _ _ _ dX11_isWeather_14 rfl (⟨by simp only [F_isWeather, if_neg c1, if_pos c6], rfl⟩)
    · intro c6
      refine g_iconst C (v := 1) dX11_isWeather_9 (by decide) rfl ?_
      refine g_goto C dX11_isWeather_10 (tgt := 14) (by decide) ?_
      exact ret _ _ _ _ dX11_isWeather_14 rfl (⟨by simp only [F_isWeather, if_neg c1, if_neg c6], rfl⟩)
def F_isAhead (x : Int32) : Int32 := (if (x) < 1 then (0) else (if 6 < (x) then (0) else (1)))
set_option maxHeartbeats 4000000 in
set_option maxRecDepth 100000 in
theorem k_X11_isAhead (l : Launch) (D : va_G) (b z : Nat) (h : qH) (x : Int32) : qMi l D b yX11_isAhead cX11_isAhead 1 .boolean 0 0 [.int (x)] h z (fun r h' => r = F_isAhead x ∧ h' = h) := by
  refine q_i (L := [(0, .int (x))]) (own := RX11) (by decide) rfl (Nat.le_of_ble_eq_true rfl) rfl ?_
  intro X C ret
  refine g_iload_n C 0 dX11_isAhead_0 rfl rfl rfl ?_
  refine g_iconst C (v := 1) dX11_isAhead_1 (by decide) rfl ?_
  refine g_icmp_lt C dX11_isAhead_2 (tgt := 15) (by decide) (pc' := 5) rfl ?_ ?_
  · intro c2
    refine g_iconst C (v := 0) dX11_isAhead_15 (by decide) rfl ?_
    exact ret _ _ _ _ dX11_isAhead_16 rfl (⟨by simp only [F_isAhead, if_pos c2], rfl⟩)
  · intro c2
    refine g_iload_n C 0 dX11_isAhead_5 rfl rfl rfl ?_
    refine g_bipush C (v := 6) dX11_isAhead_6 (by decide) rfl ?_
    refine g_icmp_gt C dX11_isAhead_8 (tgt := 15) (by decide) (pc' := 11) rfl ?_ ?_
    · intro c8
      refine g_iconst C (v := 0) dX11_isAhead_15 (by decide) rfl ?_
      exact ret _ _ _ _ dX11_isAhead_16 rfl (⟨by simp only [F_isAhead, if_neg c2, if_pos c8], rfl⟩)
    · intro c8
      refine g_iconst C (v := 1) dX11_isAhead_11 (by decide) rfl ?_
      refine g_goto C dX11_isAhead_12 (tgt := 16) (by decide) ?_
      exact ret _ _ _ _ dX11_isAhead_16 rfl (⟨by simp only [F_isAhead, if_neg c2, if_neg c8], rfl⟩)
def F_isPart (x : Int32) : Int32 := (if (x) = 0 then (1) else (if (x) = 1 then (1) else (0)))
set_option maxHeartbeats 4000000 in
set_option maxRecDepth 100000 in
theorem k_X11_isPart (l : Launch) (D : va_G) (b z : Nat) (h : qH) (x : Int32) : qMi l D b yX11_isPart cX11_isPart 1 .boolean 0 0 [.int (x)] h z (fun r h' => r = F_isPart x ∧ h' = h) := by
  refine q_i (L := [(0, .int (x))]) (own := RX11) (by decide) rfl (Nat.le_of_ble_eq_true rfl) rfl ?_
  intro X C ret
  refine g_iload_n C 0 dX11_isPart_0 rfl rfl rfl ?_
  refine g_if_eq C dX11_isPart_1 (tgt := 9) (by decide) (pc' := 4) rfl ?_ ?_
  · intro c1
    refine g_iconst C (v := 1) dX11_isPart_9 (by decide) rfl ?_
    refine g_goto C dX11_isPart_10 (tgt := 14) (by decide) ?_
    exact ret _ _ _ _ dX11_isPart_14 rfl (⟨by simp only [F_isPart, if_pos c1], rfl⟩)
  · intro c1
    refine g_iload_n C 0 dX11_isPart_4 rfl rfl rfl ?_
    refine g_iconst C (v := 1) dX11_isPart_5 (by decide) rfl ?_
    refine g_icmp_ne C dX11_isPart_6 (tgt := 13) (by decide) (pc' := 9) rfl ?_ ?_
    · intro c6
      refine g_iconst C (v := 0) dX11_isPart_13 (by decide) rfl ?_
      exact ret _ _ _ _ dX11_isPart_14 rfl (⟨by simp only [F_isPart, if_neg c1, if_neg c6], rfl⟩)
    · intro c6
      refine g_iconst C (v := 1) dX11_isPart_9 (by decide) rfl ?_
      refine g_goto C dX11_isPart_10 (tgt := 14) (by decide) ?_
      exact ret _ _ _ _ dX11_isPart_14 rfl (⟨by simp only [F_isPart, if_neg c1, if_pos c6], rfl⟩)
def F_isPrice (x : Int32) : Int32 := (if (x) < 1 then (0) else (if 9 < (x) then (0) else (1)))
set_option maxHeartbeats 4000000 in
set_option maxRecDepth 100000 in
theorem k_X11_isPrice (l : Launch) (D : va_G) (b z : Nat) (h : qH) (x : Int32) : qMi l D b yX11_isPrice cX11_isPrice 1 .boolean 0 0 [.int (x)] h z (fun r h' => r = F_isPrice x ∧ h' = h) := by
  refine q_i (L := [(0, .int (x))]) (own := RX11) (by decide) rfl (Nat.le_of_ble_eq_true rfl) rfl ?_
  intro X C ret
  refine g_iload_n C 0 dX11_isPrice_0 rfl rfl rfl ?_
  refine g_iconst C (v := 1) dX11_isPrice_1 (by decide) rfl ?_
  refine g_icmp_lt C dX11_isPrice_2 (tgt := 15) (by decide) (pc' := 5) rfl ?_ ?_
  · intro c2
    refine g_iconst C (v := 0) dX11_isPrice_15 (by decide) rfl ?_
    exact ret _ _ _ _ dX11_isPrice_16 rfl (⟨by simp only [F_isPrice, if_pos c2], rfl⟩)
  · intro c2
    refine g_iload_n C 0 dX11_isPrice_5 rfl rfl rfl ?_
    refine g_bipush C (v := 9) dX11_isPrice_6 (by decide) rfl ?_
    refine g_icmp_gt C dX11_isPrice_8 (tgt := 15) (by decide) (pc' := 11) rfl ?_ ?_
    · intro c8
      refine g_iconst C (v := 0) dX11_isPrice_15 (by decide) rfl ?_
      exact ret _ _ _ _ dX11_isPrice_16 rfl (⟨by simp only [F_isPrice, if_neg c2, if_pos c8], rfl⟩)
    · intro c8
      refine g_iconst C (v := 1) dX11_isPrice_11 (by decide) rfl ?_
      refine g_goto C dX11_isPrice_12 (tgt := 16) (by decide) ?_
      exact ret _ _ _ _ dX11_isPrice_16 rfl (⟨by simp only [F_isPrice, if_neg c2, if_neg c8], rfl⟩)
set_option maxHeartbeats 4000000 in
set_option maxRecDepth 100000 in
theorem k_X8_codeAt (l : Launch) (D : va_G) (b z : Nat) {h : qH} {a : Nat} {cs : Nat → Int32} {n : Nat} (hn : n ≤ 16) (hPg : PgAt D h a cs (nI n)) {k : Nat} (hk : k < n) : qMi l D b yX8_codeAt cX8_codeAt 2 .int 0 0 [.ref (a), .int (nI (k))] h z (fun r h' => r = cs k ∧ h' = h) := by
  refine q_i (L := [(0, .ref (a)), (1, .int (nI (k)))]) (own := RX8) (by decide) rfl (Nat.le_of_ble_eq_true rfl) rfl ?_
  intro X C ret
  refine g_iload_n C 1 dX8_codeAt_0 rfl rfl rfl ?_
  refine g_if_lt C dX8_codeAt_1 (tgt := 27) (by decide) (pc' := 4) rfl ?_ ?_
  · intro c1
    replace c1 := (nI_ltI (a := k) (b := 0) (by omega) (by omega)).mp c1
    omega
  · intro c1
    replace c1 := (not_congr (nI_ltI (a := k) (b := 0) (by omega) (by omega))).mp c1
    refine g_iload_n C 1 dX8_codeAt_4 rfl rfl rfl ?_
    refine g_aload_n C 0 dX8_codeAt_5 rfl rfl rfl ?_
    refine gf_8_15 C (hPg.1) (v := .int (nI (n))) rfl dX8_codeAt_6 rfl ?_
    refine g_icmp_ge C dX8_codeAt_9 (tgt := 27) (by decide) (pc' := 12) rfl ?_ ?_
    · intro c9
      replace c9 := (nI_leI (a := n) (b := k) (by omega) (by omega)).mp c9
      omega
    · intro c9
      replace c9 := (not_congr (nI_leI (a := n) (b := k) (by omega) (by omega))).mp c9
      refine g_iload_n C 1 dX8_codeAt_12 rfl rfl rfl ?_
      refine g_bipush C (v := 16) dX8_codeAt_13 (by decide) rfl ?_
      refine g_icmp_ge C dX8_codeAt_15 (tgt := 27) (by decide) (pc' := 18) rfl ?_ ?_
      · intro c15
        replace c15 := (nI_leI (a := 16) (b := k) (by omega) (by omega)).mp c15
        omega
      · intro c15
        replace c15 := (not_congr (nI_leI (a := 16) (b := k) (by omega) (by omega))).mp c15
        refine g_aload_n C 0 dX8_codeAt_18 rfl rfl rfl ?_
        refine gf_8_11 C (hPg.1) (v := .ref (a + 1)) rfl dX8_codeAt_19 rfl ?_
        refine g_iload_n C 1 dX8_codeAt_22 rfl rfl rfl ?_
        refine g_iald' C (hPg.2) (j := k) rfl (by omega) (by decide) dX8_codeAt_23 rfl ?_
        refine g_goto C dX8_codeAt_24 (tgt := 28) (by decide) ?_
        exact ret _ _ _ _ dX8_codeAt_28 rfl (⟨rfl, rfl⟩)
def F_dg (c : Int32) : Int32 := if c < 48 then -1 else (if 57 < c then -1 else c - 48)
set_option maxHeartbeats 4000000 in
set_option maxRecDepth 100000 in
theorem k_X8_digitAt (l : Launch) (D : va_G) (b z : Nat) {h : qH} {a : Nat} {cs : Nat → Int32} {n : Nat} (hn : n ≤ 16) (hPg : PgAt D h a cs (nI n)) {k : Nat} (hk : k < n) : qMi l D b yX8_digitAt cX8_digitAt 3 .int 1 21 [.ref (a), .int (nI (k))] h z (fun r h' => r = F_dg (cs k) ∧ h' = h) := by
  refine q_i (L := [(0, .ref (a)), (1, .int (nI (k)))]) (own := RX8) (by decide) rfl (Nat.le_of_ble_eq_true rfl) rfl ?_
  intro X C ret
  refine g_aload_n C 0 dX8_digitAt_0 rfl rfl rfl ?_
  refine g_iload_n C 1 dX8_digitAt_1 rfl rfl rfl ?_
  refine g_callVi C (As := [.int (nI (k))]) (q := (RX8, TX8, 2)) (k_X8_codeAt l D b z hn hPg (k := k) (by omega)) hw_8_19 (hPg.1) rfl (by decide) rfl rfl (Nat.le_of_ble_eq_true rfl) ⟨Nat.zero_le _, Nat.zero_le _⟩ dX8_digitAt_2 (pc' := 5) rfl ?_
  rintro r1 h9 ⟨er, e9⟩
  subst h9; subst er
  refine g_istore_n C ([(2, .int (cs (k))), (0, .ref (a)), (1, .int (nI (k)))]) dX8_digitAt_5 rfl (by decide) rfl rfl ?_
  refine g_iload_n C 0 dX8_digitAt_6 rfl rfl rfl ?_
  refine g_bipush C (v := 48) dX8_digitAt_7 (by decide) rfl ?_
  refine g_icmp_lt C dX8_digitAt_9 (tgt := 25) (by decide) (pc' := 12) rfl ?_ ?_
  · intro c9
    refine g_iconst C (v := -1) dX8_digitAt_25 (by decide) rfl ?_
    exact ret _ _ _ _ dX8_digitAt_26 rfl (⟨by simp only [F_dg, if_pos c9], rfl⟩)
  · intro c9
    refine g_iload_n C 0 dX8_digitAt_12 rfl rfl rfl ?_
    refine g_bipush C (v := 57) dX8_digitAt_13 (by decide) rfl ?_
    refine g_icmp_gt C dX8_digitAt_15 (tgt := 25) (by decide) (pc' := 18) rfl ?_ ?_
    · intro c15
      refine g_iconst C (v := -1) dX8_digitAt_25 (by decide) rfl ?_
      exact ret _ _ _ _ dX8_digitAt_26 rfl (⟨by simp only [F_dg, if_neg c9, if_pos c15], rfl⟩)
    · intro c15
      refine g_iload_n C 0 dX8_digitAt_18 rfl rfl rfl ?_
      refine g_bipush C (v := 48) dX8_digitAt_19 (by decide) rfl ?_
      refine g_isub C dX8_digitAt_21 rfl ?_
      refine g_goto C dX8_digitAt_22 (tgt := 26) (by decide) ?_
      exact ret _ _ _ _ dX8_digitAt_26 rfl (⟨by simp only [F_dg, if_neg c9, if_neg c15], rfl⟩)
def tsum (cs : Nat → Int32) (q : Nat) : Nat → Int32
  | 0 => 0
  | j + 1 => tsum cs q j + F_dg (cs (q + j))
def gtP (cs : Nat → Int32) (q m : Nat) : Prop := (∀ j, j ≤ m → ¬ F_dg (cs (q + j)) = -1) ∧ (if m = 2 then tsum cs q (m + 1) = 10 else ¬ 10 < tsum cs q (m + 1))
set_option maxHeartbeats 4000000 in
set_option maxRecDepth 100000 in
theorem k_X8_isGoodTenths (l : Launch) (D : va_G) (b z : Nat) {h : qH} {a : Nat} {cs : Nat → Int32} {n : Nat} (hn : n ≤ 16) (hPg : PgAt D h a cs (nI n)) {q m : Nat} (hq : q % 4 = 0) (hm : m ≤ 2) (hk : q + m < n) : qMi l D b yX8_isGoodTenths cX8_isGoodTenths 4 .boolean 2 43 [.ref (a), .int (nI (q + m))] h z (fun r h' => ((r = 1 ∧ gtP cs q m) ∨ (r = 0 ∧ ¬ gtP cs q m)) ∧ h' = h) := by
  refine q_i (L := [(0, .ref (a)), (1, .int (nI (q + m)))]) (own := RX8) (by decide) rfl (Nat.le_of_ble_eq_true rfl) rfl ?_
  intro X C ret
  refine g_iconst C (v := 0) dX8_isGoodTenths_0 (by decide) rfl ?_
  refine g_istore_n C ([(2, .int (0)), (0, .ref (a)), (1, .int (nI (q + m)))]) dX8_isGoodTenths_1 rfl (by decide) rfl rfl ?_
  refine g_iload_n C 2 dX8_isGoodTenths_2 rfl rfl rfl ?_
  refine g_iload_n C 2 dX8_isGoodTenths_3 rfl rfl rfl ?_
  refine g_iconst C (v := 4) dX8_isGoodTenths_4 (by decide) rfl ?_
  refine g_irem C dX8_isGoodTenths_5 (by decide) rfl ?_
  refine g_topi (y := nI m) ((rem_nI (d := 4) (by omega) (by decide) (by decide)).trans (congrArg nI (by omega))) ?_
  refine g_isub C dX8_isGoodTenths_6 rfl ?_
  refine g_topi (y := nI q) ((nI_sub' (by omega)).trans (congrArg nI (by omega))) ?_
  refine g_istore_n C ([(3, .int (nI q)), (2, .int (0)), (0, .ref (a)), (1, .int (nI (q + m)))]) dX8_isGoodTenths_7 rfl (by decide) rfl rfl ?_
  have loop8 : ∀ (N : Nat) (j : Nat), m + 1 - j < N → (j ≤ m + 1) → (∀ t, t < j → ¬ F_dg (cs (q + t)) = -1) → qG X 0 0 z h 8 [(3, .int (nI (q + j))), (2, .int (tsum cs q j)), (0, .ref (a)), (1, .int (nI (q + m)))] [] := by
    intro N
    induction N with
    | zero => intro j hm; exact absurd hm (Nat.not_lt_zero _)
    | succ N ih8 =>
      intro j hm hj hall
      refine g_iload_n C 0 dX8_isGoodTenths_8 rfl rfl rfl ?_
      refine g_iload_n C 3 dX8_isGoodTenths_9 rfl rfl rfl ?_
      refine g_icmp_gt C dX8_isGoodTenths_10 (tgt := 38) (by decide) (pc' := 13) rfl ?_ ?_
      · intro c10
        replace c10 := (nI_ltI (a := q + m) (b := q + j) (by omega) (by omega)).mp c10
        refine g_iload_n C 3 dX8_isGoodTenths_38 rfl rfl rfl ?_
        refine g_iconst C (v := 4) dX8_isGoodTenths_39 (by decide) rfl ?_
        refine g_irem C dX8_isGoodTenths_40 (by decide) rfl ?_
        refine g_topi (y := nI m) ((rem_nI (d := 4) (by omega) (by decide) (by decide)).trans (congrArg nI (by omega))) ?_
        refine g_iconst C (v := 2) dX8_isGoodTenths_41 (by decide) rfl ?_
        refine g_icmp_ne C dX8_isGoodTenths_42 (tgt := 59) (by decide) (pc' := 45) rfl ?_ ?_
        · intro c42
          replace c42 := (not_congr (nI_eq (a := m) (b := 2) (by omega) (by omega))).mp c42
          refine g_iload_n C 1 dX8_isGoodTenths_59 rfl rfl rfl ?_
          refine g_bipush C (v := 10) dX8_isGoodTenths_60 (by decide) rfl ?_
          refine g_icmp_gt C dX8_isGoodTenths_62 (tgt := 69) (by decide) (pc' := 65) rfl ?_ ?_
          · intro c62
            refine g_iconst C (v := 0) dX8_isGoodTenths_69 (by decide) rfl ?_
            exact ret _ _ _ _ dX8_isGoodTenths_70 rfl (⟨Or.inr ⟨rfl, fun hg => by have h2 := hg.2; rw [if_neg c42, ← (by omega : j = m + 1)] at h2; exact h2 c62⟩, rfl⟩)
          · intro c62
            refine g_iconst C (v := 1) dX8_isGoodTenths_65 (by decide) rfl ?_
            refine g_goto C dX8_isGoodTenths_66 (tgt := 70) (by decide) ?_
            exact ret _ _ _ _ dX8_isGoodTenths_70 rfl (⟨Or.inl ⟨rfl, fun t ht => hall t (by omega), by rw [if_neg c42, ← (by omega : j = m + 1)]; exact c62⟩, rfl⟩)
        · intro c42
          replace c42 := (nI_eq (a := m) (b := 2) (by omega) (by omega)).mp c42
          refine g_iload_n C 1 dX8_isGoodTenths_45 rfl rfl rfl ?_
          refine g_bipush C (v := 10) dX8_isGoodTenths_46 (by decide) rfl ?_
          refine g_icmp_ne C dX8_isGoodTenths_48 (tgt := 55) (by decide) (pc' := 51) rfl ?_ ?_
          · intro c48
            refine g_iconst C (v := 0) dX8_isGoodTenths_55 (by decide) rfl ?_
            refine g_goto C dX8_isGoodTenths_56 (tgt := 70) (by decide) ?_
            exact ret _ _ _ _ dX8_isGoodTenths_70 rfl (⟨Or.inr ⟨rfl, fun hg => by have h2 := hg.2; rw [if_pos c42, ← (by omega : j = m + 1)] at h2; exact c48 h2⟩, rfl⟩)
          · intro c48
            refine g_iconst C (v := 1) dX8_isGoodTenths_51 (by decide) rfl ?_
            refine g_goto C dX8_isGoodTenths_52 (tgt := 70) (by decide) ?_
            exact ret _ _ _ _ dX8_isGoodTenths_70 rfl (⟨Or.inl ⟨rfl, fun t ht => hall t (by omega), by rw [if_pos c42, ← (by omega : j = m + 1)]; exact c48⟩, rfl⟩)
      · intro c10
        replace c10 := (not_congr (nI_ltI (a := q + m) (b := q + j) (by omega) (by omega))).mp c10
        refine g_aload_n C 2 dX8_isGoodTenths_13 rfl rfl rfl ?_
        refine g_iload_n C 0 dX8_isGoodTenths_14 rfl rfl rfl ?_
        refine g_callVi C (As := [.int (nI (q + j))]) (q := (RX8, TX8, 2)) (k_X8_digitAt l D b z hn hPg (k := q + j) (by omega)) hw_8_31 (hPg.1) rfl (by decide) rfl rfl (Nat.le_of_ble_eq_true rfl) ⟨Nat.zero_le _, Nat.zero_le _⟩ dX8_isGoodTenths_15 (pc' := 18) rfl ?_
        rintro r1 h9 ⟨er, e9⟩
        subst h9; subst er
        refine g_iconst C (v := -1) dX8_isGoodTenths_18 (by decide) rfl ?_
        refine g_icmp_ne C dX8_isGoodTenths_19 (tgt := 24) (by decide) (pc' := 22) rfl ?_ ?_
        · intro c19
          refine g_iload_n C 1 dX8_isGoodTenths_24 rfl rfl rfl ?_
          refine g_aload_n C 2 dX8_isGoodTenths_25 rfl rfl rfl ?_
          refine g_iload_n C 0 dX8_isGoodTenths_26 rfl rfl rfl ?_
          refine g_callVi C (As := [.int (nI (q + j))]) (q := (RX8, TX8, 2)) (k_X8_digitAt l D b z hn hPg (k := q + j) (by omega)) hw_8_31 (hPg.1) rfl (by decide) rfl rfl (Nat.le_of_ble_eq_true rfl) ⟨Nat.zero_le _, Nat.zero_le _⟩ dX8_isGoodTenths_27 (pc' := 30) rfl ?_
          rintro r2 h9 ⟨er, e9⟩
          subst h9; subst er
          refine g_iadd C dX8_isGoodTenths_30 rfl ?_
          refine g_istore_n C ([(2, .int ((tsum cs q j) + (F_dg (cs (q + j))))), (3, .int (nI (q + j))), (0, .ref (a)), (1, .int (nI (q + m)))]) dX8_isGoodTenths_31 rfl (by decide) rfl rfl ?_
          refine g_iinc C (v := nI (q + j + 1)) 1 ([(3, .int (nI (q + j + 1))), (2, .int ((tsum cs q j) + (F_dg (cs (q + j))))), (0, .ref (a)), (1, .int (nI (q + m)))]) dX8_isGoodTenths_32 rfl (nI_1 _) (by decide) rfl rfl ?_
          refine g_goto C dX8_isGoodTenths_35 (tgt := 8) (by decide) ?_
          exact ih8 (j + 1) (by omega) (by omega) (fun t ht => by rcases Nat.lt_succ_iff_lt_or_eq.mp ht with g | g; exact hall t g; subst g; exact c19)
        · intro c19
          refine g_iconst C (v := 0) dX8_isGoodTenths_22 (by decide) rfl ?_
          exact ret _ _ _ _ dX8_isGoodTenths_23 rfl (⟨Or.inr ⟨rfl, fun hg => hg.1 j (by omega) c19⟩, rfl⟩)
  exact loop8 _ (0) (Nat.lt_succ_self _) (Nat.zero_le _) (fun t ht => absurd ht (Nat.not_lt_zero _))
def pgG (cs : Nat → Int32) (p : Nat) : Prop := if 13 < p then False else if p = 13 then ¬ F_dg (cs p) = -1 else if p = 12 then ¬ F_dg (cs p) < 1 ∧ ¬ 4 < F_dg (cs p) else if p = 11 then cs p = 59 else if p % 4 = 3 then cs p = 47 else gtP cs (p - p % 4) (p % 4)
set_option maxHeartbeats 4000000 in
set_option maxRecDepth 100000 in
theorem k_X8_isGoodAt (l : Launch) (D : va_G) (b z : Nat) {h : qH} {a : Nat} {cs : Nat → Int32} {n : Nat} (hn : n ≤ 16) (hPg : PgAt D h a cs (nI n)) {p : Nat} (hk : p < n) : qMi l D b yX8_isGoodAt cX8_isGoodAt 2 .boolean 3 66 [.ref (a), .int (nI (p))] h z (fun r h' => ((r = 1 ∧ pgG cs p) ∨ (r = 0 ∧ ¬ pgG cs p)) ∧ h' = h) := by
  refine q_i (L := [(0, .ref (a)), (1, .int (nI (p)))]) (own := RX8) (by decide) rfl (Nat.le_of_ble_eq_true rfl) rfl ?_
  intro X C ret
  refine g_iload_n C 1 dX8_isGoodAt_0 rfl rfl rfl ?_
  refine g_bipush C (v := 13) dX8_isGoodAt_1 (by decide) rfl ?_
  refine g_icmp_le C dX8_isGoodAt_3 (tgt := 8) (by decide) (pc' := 6) rfl ?_ ?_
  · intro c3
    replace c3 := (nI_leI (a := p) (b := 13) (by omega) (by omega)).mp c3
    refine g_iload_n C 1 dX8_isGoodAt_8 rfl rfl rfl ?_
    refine g_bipush C (v := 13) dX8_isGoodAt_9 (by decide) rfl ?_
    refine g_icmp_ne C dX8_isGoodAt_11 (tgt := 29) (by decide) (pc' := 14) rfl ?_ ?_
    · intro c11
      replace c11 := (not_congr (nI_eq (a := p) (b := 13) (by omega) (by omega))).mp c11
      refine g_iload_n C 1 dX8_isGoodAt_29 rfl rfl rfl ?_
      refine g_bipush C (v := 12) dX8_isGoodAt_30 (by decide) rfl ?_
      refine g_icmp_ne C dX8_isGoodAt_32 (tgt := 59) (by decide) (pc' := 35) rfl ?_ ?_
      · intro c32
        replace c32 := (not_congr (nI_eq (a := p) (b := 12) (by omega) (by omega))).mp c32
        refine g_iload_n C 1 dX8_isGoodAt_59 rfl rfl rfl ?_
        refine g_bipush C (v := 11) dX8_isGoodAt_60 (by decide) rfl ?_
        refine g_icmp_ne C dX8_isGoodAt_62 (tgt := 81) (by decide) (pc' := 65) rfl ?_ ?_
        · intro c62
          replace c62 := (not_congr (nI_eq (a := p) (b := 11) (by omega) (by omega))).mp c62
          refine g_iload_n C 1 dX8_isGoodAt_81 rfl rfl rfl ?_
          refine g_iconst C (v := 4) dX8_isGoodAt_82 (by decide) rfl ?_
          refine g_irem C dX8_isGoodAt_83 (by decide) rfl ?_
          refine g_topi (y := nI (p % 4)) (rem_nI (d := 4) (by omega) (by decide) (by decide)) ?_
          refine g_iconst C (v := 3) dX8_isGoodAt_84 (by decide) rfl ?_
          refine g_icmp_ne C dX8_isGoodAt_85 (tgt := 106) (by decide) (pc' := 88) rfl ?_ ?_
          · intro c85
            replace c85 := (not_congr (nI_eq (a := p % 4) (b := 3) (by omega) (by omega))).mp c85
            refine g_aload_n C 0 dX8_isGoodAt_106 rfl rfl rfl ?_
            refine g_iload_n C 1 dX8_isGoodAt_107 rfl rfl rfl ?_
            refine g_callVi C (As := [.int (nI (p))]) (q := (RX8, TX8, 2)) ((show p - p % 4 + p % 4 = p by omega) ▸ k_X8_isGoodTenths l D b z hn hPg (q := p - p % 4) (m := p % 4) (by omega) (by omega) (by omega)) hw_8_34 (hPg.1) rfl (by decide) rfl rfl (Nat.le_of_ble_eq_true rfl) ⟨Nat.zero_le _, Nat.zero_le _⟩ dX8_isGoodAt_108 (pc' := 111) rfl ?_
            rintro r1 h9 ⟨⟨er, hp108⟩ | ⟨er, hp108⟩, e9⟩
            · subst h9; subst er
              exact ret _ _ _ _ dX8_isGoodAt_111 rfl ((by unfold pgG; first | exact ⟨Or.inl ⟨rfl, by simp_all⟩, rfl⟩ | exact ⟨Or.inr ⟨rfl, by simp_all⟩, rfl⟩ | (refine ⟨?_, rfl⟩; simp_all)))
            · subst h9; subst er
              exact ret _ _ _ _ dX8_isGoodAt_111 rfl ((by unfold pgG; first | exact ⟨Or.inl ⟨rfl, by simp_all⟩, rfl⟩ | exact ⟨Or.inr ⟨rfl, by simp_all⟩, rfl⟩ | (refine ⟨?_, rfl⟩; simp_all)))
          · intro c85
            replace c85 := (nI_eq (a := p % 4) (b := 3) (by omega) (by omega)).mp c85
            refine g_aload_n C 0 dX8_isGoodAt_88 rfl rfl rfl ?_
            refine g_iload_n C 1 dX8_isGoodAt_89 rfl rfl rfl ?_
            refine g_callVi C (As := [.int (nI (p))]) (q := (RX8, TX8, 2)) (k_X8_codeAt l D b z hn hPg (k := p) (by omega)) hw_8_19 (hPg.1) rfl (by decide) rfl rfl (Nat.le_of_ble_eq_true rfl) ⟨Nat.zero_le _, Nat.zero_le _⟩ dX8_isGoodAt_90 (pc' := 93) rfl ?_
            rintro r2 h9 ⟨er, e9⟩
            subst h9; subst er
            refine g_bipush C (v := 47) dX8_isGoodAt_93 (by decide) rfl ?_
            refine g_icmp_ne C dX8_isGoodAt_95 (tgt := 102) (by decide) (pc' := 98) rfl ?_ ?_
            · intro c95
              refine g_iconst C (v := 0) dX8_isGoodAt_102 (by decide) rfl ?_
              refine g_goto C dX8_isGoodAt_103 (tgt := 111) (by decide) ?_
              exact ret _ _ _ _ dX8_isGoodAt_111 rfl ((by unfold pgG; first | exact ⟨Or.inl ⟨rfl, by simp_all⟩, rfl⟩ | exact ⟨Or.inr ⟨rfl, by simp_all⟩, rfl⟩ | (refine ⟨?_, rfl⟩; simp_all)))
            · intro c95
              refine g_iconst C (v := 1) dX8_isGoodAt_98 (by decide) rfl ?_
              refine g_goto C dX8_isGoodAt_99 (tgt := 111) (by decide) ?_
              exact ret _ _ _ _ dX8_isGoodAt_111 rfl ((by unfold pgG; first | exact ⟨Or.inl ⟨rfl, by simp_all⟩, rfl⟩ | exact ⟨Or.inr ⟨rfl, by simp_all⟩, rfl⟩ | (refine ⟨?_, rfl⟩; simp_all)))
        · intro c62
          replace c62 := (nI_eq (a := p) (b := 11) (by omega) (by omega)).mp c62
          refine g_aload_n C 0 dX8_isGoodAt_65 rfl rfl rfl ?_
          refine g_iload_n C 1 dX8_isGoodAt_66 rfl rfl rfl ?_
          refine g_callVi C (As := [.int (nI (p))]) (q := (RX8, TX8, 2)) (k_X8_codeAt l D b z hn hPg (k := p) (by omega)) hw_8_19 (hPg.1) rfl (by decide) rfl rfl (Nat.le_of_ble_eq_true rfl) ⟨Nat.zero_le _, Nat.zero_le _⟩ dX8_isGoodAt_67 (pc' := 70) rfl ?_
          rintro r3 h9 ⟨er, e9⟩
          subst h9; subst er
          refine g_bipush C (v := 59) dX8_isGoodAt_70 (by decide) rfl ?_
          refine g_icmp_ne C dX8_isGoodAt_72 (tgt := 79) (by decide) (pc' := 75) rfl ?_ ?_
          · intro c72
            refine g_iconst C (v := 0) dX8_isGoodAt_79 (by decide) rfl ?_
            exact ret _ _ _ _ dX8_isGoodAt_80 rfl ((by unfold pgG; first | exact ⟨Or.inl ⟨rfl, by simp_all⟩, rfl⟩ | exact ⟨Or.inr ⟨rfl, by simp_all⟩, rfl⟩ | (refine ⟨?_, rfl⟩; simp_all)))
          · intro c72
            refine g_iconst C (v := 1) dX8_isGoodAt_75 (by decide) rfl ?_
            refine g_goto C dX8_isGoodAt_76 (tgt := 80) (by decide) ?_
            exact ret _ _ _ _ dX8_isGoodAt_80 rfl ((by unfold pgG; first | exact ⟨Or.inl ⟨rfl, by simp_all⟩, rfl⟩ | exact ⟨Or.inr ⟨rfl, by simp_all⟩, rfl⟩ | (refine ⟨?_, rfl⟩; simp_all)))
      · intro c32
        replace c32 := (nI_eq (a := p) (b := 12) (by omega) (by omega)).mp c32
        refine g_aload_n C 0 dX8_isGoodAt_35 rfl rfl rfl ?_
        refine g_iload_n C 1 dX8_isGoodAt_36 rfl rfl rfl ?_
        refine g_callVi C (As := [.int (nI (p))]) (q := (RX8, TX8, 2)) (k_X8_digitAt l D b z hn hPg (k := p) (by omega)) hw_8_31 (hPg.1) rfl (by decide) rfl rfl (Nat.le_of_ble_eq_true rfl) ⟨Nat.zero_le _, Nat.zero_le _⟩ dX8_isGoodAt_37 (pc' := 40) rfl ?_
        rintro r4 h9 ⟨er, e9⟩
        subst h9; subst er
        refine g_iconst C (v := 1) dX8_isGoodAt_40 (by decide) rfl ?_
        refine g_icmp_lt C dX8_isGoodAt_41 (tgt := 57) (by decide) (pc' := 44) rfl ?_ ?_
        · intro c41
          refine g_iconst C (v := 0) dX8_isGoodAt_57 (by decide) rfl ?_
          exact ret _ _ _ _ dX8_isGoodAt_58 rfl ((by unfold pgG; first | exact ⟨Or.inl ⟨rfl, by simp_all⟩, rfl⟩ | exact ⟨Or.inr ⟨rfl, by simp_all⟩, rfl⟩ | (refine ⟨?_, rfl⟩; simp_all)))
        · intro c41
          refine g_aload_n C 0 dX8_isGoodAt_44 rfl rfl rfl ?_
          refine g_iload_n C 1 dX8_isGoodAt_45 rfl rfl rfl ?_
          refine g_callVi C (As := [.int (nI (p))]) (q := (RX8, TX8, 2)) (k_X8_digitAt l D b z hn hPg (k := p) (by omega)) hw_8_31 (hPg.1) rfl (by decide) rfl rfl (Nat.le_of_ble_eq_true rfl) ⟨Nat.zero_le _, Nat.zero_le _⟩ dX8_isGoodAt_46 (pc' := 49) rfl ?_
          rintro r5 h9 ⟨er, e9⟩
          subst h9; subst er
          refine g_iconst C (v := 4) dX8_isGoodAt_49 (by decide) rfl ?_
          refine g_icmp_gt C dX8_isGoodAt_50 (tgt := 57) (by decide) (pc' := 53) rfl ?_ ?_
          · intro c50
            refine g_iconst C (v := 0) dX8_isGoodAt_57 (by decide) rfl ?_
            exact ret _ _ _ _ dX8_isGoodAt_58 rfl ((by unfold pgG; first | exact ⟨Or.inl ⟨rfl, by simp_all⟩, rfl⟩ | exact ⟨Or.inr ⟨rfl, by simp_all⟩, rfl⟩ | (refine ⟨?_, rfl⟩; simp_all)))
          · intro c50
            refine g_iconst C (v := 1) dX8_isGoodAt_53 (by decide) rfl ?_
            refine g_goto C dX8_isGoodAt_54 (tgt := 58) (by decide) ?_
            exact ret _ _ _ _ dX8_isGoodAt_58 rfl ((by unfold pgG; first | exact ⟨Or.inl ⟨rfl, by simp_all⟩, rfl⟩ | exact ⟨Or.inr ⟨rfl, by simp_all⟩, rfl⟩ | (refine ⟨?_, rfl⟩; simp_all)))
    · intro c11
      replace c11 := (nI_eq (a := p) (b := 13) (by omega) (by omega)).mp c11
      refine g_aload_n C 0 dX8_isGoodAt_14 rfl rfl rfl ?_
      refine g_iload_n C 1 dX8_isGoodAt_15 rfl rfl rfl ?_
      refine g_callVi C (As := [.int (nI (p))]) (q := (RX8, TX8, 2)) (k_X8_digitAt l D b z hn hPg (k := p) (by omega)) hw_8_31 (hPg.1) rfl (by decide) rfl rfl (Nat.le_of_ble_eq_true rfl) ⟨Nat.zero_le _, Nat.zero_le _⟩ dX8_isGoodAt_16 (pc' := 19) rfl ?_
      rintro r6 h9 ⟨er, e9⟩
      subst h9; subst er
      refine g_iconst C (v := -1) dX8_isGoodAt_19 (by decide) rfl ?_
      refine g_icmp_eq C dX8_isGoodAt_20 (tgt := 27) (by decide) (pc' := 23) rfl ?_ ?_
      · intro c20
        refine g_iconst C (v := 0) dX8_isGoodAt_27 (by decide) rfl ?_
        exact ret _ _ _ _ dX8_isGoodAt_28 rfl ((by unfold pgG; first | exact ⟨Or.inl ⟨rfl, by simp_all⟩, rfl⟩ | exact ⟨Or.inr ⟨rfl, by simp_all⟩, rfl⟩ | (refine ⟨?_, rfl⟩; simp_all)))
      · intro c20
        refine g_iconst C (v := 1) dX8_isGoodAt_23 (by decide) rfl ?_
        refine g_goto C dX8_isGoodAt_24 (tgt := 28) (by decide) ?_
        exact ret _ _ _ _ dX8_isGoodAt_28 rfl ((by unfold pgG; first | exact ⟨Or.inl ⟨rfl, by simp_all⟩, rfl⟩ | exact ⟨Or.inr ⟨rfl, by simp_all⟩, rfl⟩ | (refine ⟨?_, rfl⟩; simp_all)))
  · intro c3
    replace c3 := (not_congr (nI_leI (a := p) (b := 13) (by omega) (by omega))).mp c3
    refine g_iconst C (v := 0) dX8_isGoodAt_6 (by decide) rfl ?_
    exact ret _ _ _ _ dX8_isGoodAt_7 rfl ((by unfold pgG; first | exact ⟨Or.inl ⟨rfl, by simp_all⟩, rfl⟩ | exact ⟨Or.inr ⟨rfl, by simp_all⟩, rfl⟩ | (refine ⟨?_, rfl⟩; simp_all)))
def ffP (G : Nat → Prop) (n k : Nat) : Prop := k ≤ n ∧ (∀ j, j < k → G j) ∧ (k < n → ¬ G k)
set_option maxHeartbeats 4000000 in
set_option maxRecDepth 100000 in
theorem k_X8_firstFault (l : Launch) (D : va_G) (b z : Nat) {h : qH} {a : Nat} {cs : Nat → Int32} {n : Nat} (hn : n ≤ 16) (hPg : PgAt D h a cs (nI n)) : qMi l D b yX8_firstFault cX8_firstFault 2 .int 4 87 [.ref (a)] h z (fun r h' => (∃ k, r = nI k ∧ ffP (pgG cs) n k) ∧ h' = h) := by
  refine q_i (L := [(0, .ref (a))]) (own := RX8) (by decide) rfl (Nat.le_of_ble_eq_true rfl) rfl ?_
  intro X C ret
  refine g_iconst C (v := 0) dX8_firstFault_0 (by decide) rfl ?_
  refine g_istore_n C ([(1, .int (0)), (0, .ref (a))]) dX8_firstFault_1 rfl (by decide) rfl rfl ?_
  have loop2 : ∀ (N : Nat) (i : Nat), n - i < N → (i ≤ n) → (∀ t, t < i → pgG cs t) → qG X 0 0 z h 2 [(1, .int (nI (i))), (0, .ref (a))] [] := by
    intro N
    induction N with
    | zero => intro i hm; exact absurd hm (Nat.not_lt_zero _)
    | succ N ih2 =>
      intro i hm hi hall
      refine g_iload_n C 0 dX8_firstFault_2 rfl rfl rfl ?_
      refine g_aload_n C 1 dX8_firstFault_3 rfl rfl rfl ?_
      refine gf_8_15 C (hPg.1) (v := .int (nI (n))) rfl dX8_firstFault_4 rfl ?_
      refine g_icmp_ge C dX8_firstFault_7 (tgt := 26) (by decide) (pc' := 10) rfl ?_ ?_
      · intro c7
        replace c7 := (nI_leI (a := n) (b := i) (by omega) (by omega)).mp c7
        refine g_aload_n C 1 dX8_firstFault_26 rfl rfl rfl ?_
        refine gf_8_15 C (hPg.1) (v := .int (nI (n))) rfl dX8_firstFault_27 rfl ?_
        exact ret _ _ _ _ dX8_firstFault_30 rfl (⟨⟨n, rfl, Nat.le_refl _, fun t ht => hall t (by omega), fun g => absurd g (Nat.lt_irrefl _)⟩, rfl⟩)
      · intro c7
        replace c7 := (not_congr (nI_leI (a := n) (b := i) (by omega) (by omega))).mp c7
        refine g_aload_n C 1 dX8_firstFault_10 rfl rfl rfl ?_
        refine g_iload_n C 0 dX8_firstFault_11 rfl rfl rfl ?_
        refine g_callVi C (As := [.int (nI (i))]) (q := (RX8, TX8, 2)) (k_X8_isGoodAt l D b z hn hPg (p := i) (by omega)) hw_8_27 (hPg.1) rfl (by decide) rfl rfl (Nat.le_of_ble_eq_true rfl) ⟨Nat.zero_le _, Nat.zero_le _⟩ dX8_firstFault_12 (pc' := 15) rfl ?_
        rintro r1 h9 ⟨⟨er, hp12⟩ | ⟨er, hp12⟩, e9⟩
        · subst h9; subst er
          refine g_if_ne C dX8_firstFault_15 (tgt := 20) (by decide) (pc' := 18) rfl (fun _ => ?_) (fun c15 => absurd c15 (by decide))
          refine g_iinc C (v := nI (i + 1)) 0 ([(1, .int (nI (i + 1))), (0, .ref (a))]) dX8_firstFault_20 rfl (nI_1 _) (by decide) rfl rfl ?_
          refine g_goto C dX8_firstFault_23 (tgt := 2) (by decide) ?_
          exact ih2 (i + 1) (by omega) (by omega) (fun t ht => by rcases Nat.lt_succ_iff_lt_or_eq.mp ht with g | g; exact hall t g; subst g; exact hp12)
        · subst h9; subst er
          refine g_if_ne C dX8_firstFault_15 (tgt := 20) (by decide) (pc' := 18) rfl (fun c15 => absurd (by decide) c15) (fun _ => ?_)
          refine g_iload_n C 0 dX8_firstFault_18 rfl rfl rfl ?_
          exact ret _ _ _ _ dX8_firstFault_19 rfl (⟨⟨i, rfl, hi, hall, fun _ => hp12⟩, rfl⟩)
  exact loop2 _ (0) (Nat.lt_succ_self _) (Nat.zero_le _) (fun t ht => absurd ht (Nat.not_lt_zero _))
set_option maxHeartbeats 4000000 in
set_option maxRecDepth 100000 in
theorem k_X8_isStation (l : Launch) (D : va_G) (b z : Nat) {h : qH} {a : Nat} {cs : Nat → Int32} {n : Nat} (hn : n ≤ 16) (hPg : PgAt D h a cs (nI n)) : qMi l D b yX8_isStation cX8_isStation 1 .boolean 5 108 [.ref (a)] h z (fun r h' => ((r = 1 ∧ (n = 14 ∧ ∀ j, j < 14 → pgG cs j)) ∨ (r = 0 ∧ ¬ (n = 14 ∧ ∀ j, j < 14 → pgG cs j))) ∧ h' = h) := by
  refine q_i (L := [(0, .ref (a))]) (own := RX8) (by decide) rfl (Nat.le_of_ble_eq_true rfl) rfl ?_
  intro X C ret
  refine g_aload_n C 0 dX8_isStation_0 rfl rfl rfl ?_
  refine gf_8_15 C (hPg.1) (v := .int (nI (n))) rfl dX8_isStation_1 rfl ?_
  refine g_bipush C (v := 14) dX8_isStation_4 (by decide) rfl ?_
  refine g_icmp_ne C dX8_isStation_6 (tgt := 22) (by decide) (pc' := 9) rfl ?_ ?_
  · intro c6
    replace c6 := (not_congr (nI_eq (a := n) (b := 14) (by omega) (by omega))).mp c6
    refine g_iconst C (v := 0) dX8_isStation_22 (by decide) rfl ?_
    exact ret _ _ _ _ dX8_isStation_23 rfl (⟨Or.inr ⟨rfl, fun g => c6 g.1⟩, rfl⟩)
  · intro c6
    replace c6 := (nI_eq (a := n) (b := 14) (by omega) (by omega)).mp c6
    refine g_aload_n C 0 dX8_isStation_9 rfl rfl rfl ?_
    refine g_callVi C (As := []) (q := (RX8, TX8, 2)) (k_X8_firstFault l D b z hn hPg) hw_8_23 (hPg.1) rfl (by decide) rfl rfl (Nat.le_of_ble_eq_true rfl) ⟨Nat.zero_le _, Nat.zero_le _⟩ dX8_isStation_10 (pc' := 13) rfl ?_
    rintro _ h9 ⟨⟨k, rfl, hk, hall, hbad⟩, e9⟩
    subst h9
    refine g_bipush C (v := 14) dX8_isStation_13 (by decide) rfl ?_
    refine g_icmp_ne C dX8_isStation_15 (tgt := 22) (by decide) (pc' := 18) rfl ?_ ?_
    · intro c15
      replace c15 := (not_congr (nI_eq (a := k) (b := 14) (by omega) (by omega))).mp c15
      refine g_iconst C (v := 0) dX8_isStation_22 (by decide) rfl ?_
      exact ret _ _ _ _ dX8_isStation_23 rfl (⟨Or.inr ⟨rfl, fun g => hbad (by omega) (g.2 k (by omega))⟩, rfl⟩)
    · intro c15
      replace c15 := (nI_eq (a := k) (b := 14) (by omega) (by omega)).mp c15
      refine g_iconst C (v := 1) dX8_isStation_18 (by decide) rfl ?_
      refine g_goto C dX8_isStation_19 (tgt := 23) (by decide) ?_
      exact ret _ _ _ _ dX8_isStation_23 rfl (⟨Or.inl ⟨rfl, c6, fun j hj => hall j (by omega)⟩, rfl⟩)
set_option maxHeartbeats 4000000 in
set_option maxRecDepth 100000 in
theorem k_X8_append (l : Launch) (D : va_G) (b z : Nat) {h : qH} {a : Nat} {cs : Nat → Int32} {n : Nat} (hn : n ≤ 16) (hPg : PgAt D h a cs (nI n)) (x : Int32) : qMi l D b yX8_append cX8_append 2 .boolean 0 0 [.ref (a), .int (x)] h z (fun r h' => (n < 16 ∧ r = 1 ∧ PgAt D h' a (upd cs n x) (nI (n + 1)) ∧ (∀ q, (q < a ∨ a + 2 ≤ q) → h' q = h q)) ∨ (n = 16 ∧ r = 0 ∧ h' = h)) := by
  refine q_i (L := [(0, .ref (a)), (1, .int (x))]) (own := RX8) (by decide) rfl (Nat.le_of_ble_eq_true rfl) rfl ?_
  intro X C ret
  have hO : ∀ q, (q < a ∨ a + 2 ≤ q) → h q = h q := fun _ _ => rfl
  refine g_aload_n C 0 dX8_append_0 rfl rfl rfl ?_
  refine gf_8_15 C (hPg.1) (v := .int (nI (n))) rfl dX8_append_1 rfl ?_
  refine g_if_lt C dX8_append_4 (tgt := 16) (by decide) (pc' := 7) rfl ?_ ?_
  · intro c4
    replace c4 := (nI_ltI (a := n) (b := 0) (by omega) (by omega)).mp c4
    omega
  · intro c4
    replace c4 := (not_congr (nI_ltI (a := n) (b := 0) (by omega) (by omega))).mp c4
    refine g_aload_n C 0 dX8_append_7 rfl rfl rfl ?_
    refine gf_8_15 C (hPg.1) (v := .int (nI (n))) rfl dX8_append_8 rfl ?_
    refine g_bipush C (v := 16) dX8_append_11 (by decide) rfl ?_
    refine g_icmp_lt C dX8_append_13 (tgt := 18) (by decide) (pc' := 16) rfl ?_ ?_
    · intro c13
      replace c13 := (nI_ltI (a := n) (b := 16) (by omega) (by omega)).mp c13
      refine g_aload_n C 0 dX8_append_18 rfl rfl rfl ?_
      refine gf_8_11 C (hPg.1) (v := .ref (a + 1)) rfl dX8_append_19 rfl ?_
      refine g_aload_n C 0 dX8_append_22 rfl rfl rfl ?_
      refine gf_8_15 C (hPg.1) (v := .int (nI (n))) rfl dX8_append_23 rfl ?_
      refine g_iload_n C 1 dX8_append_26 rfl rfl rfl ?_
      refine g_iast' C (hPg.2) (j := n) rfl (by omega) (by decide) dX8_append_27 (pc' := 28) rfl (fun h1 e2 o3 => ?_)
      have hPg : PgAt D h1 (a) (upd (cs) (n) (x)) (nI (n)) := ⟨(o3 _ (by omega)).trans hPg.1, e2⟩
      have hO : ∀ q, (q < a ∨ a + 2 ≤ q) → h1 q = h q := fun q hq => (o3 q (by omega)).trans (hO q hq)
      refine g_aload_n C 0 dX8_append_28 rfl rfl rfl ?_
      refine g_dup C rfl dX8_append_29 rfl ?_
      refine gf_8_15 C (hPg.1) (v := .int (nI (n))) rfl dX8_append_30 rfl ?_
      refine g_iconst C (v := 1) dX8_append_33 (by decide) rfl ?_
      refine g_iadd C dX8_append_34 rfl ?_
      refine g_topi (y := nI (n + 1)) (nI_add _ _) ?_
      refine pf_8_15 C (hPg.1) (v := .int (nI ((n + 1)))) rfl rfl (Nat.le_of_ble_eq_true rfl) dX8_append_35 (pc' := 38) rfl (fun h4 e5 o6 => ?_)
      have hPg : PgAt D h4 (a) (upd (cs) (n) (x)) (nI ((n + 1))) := ⟨e5, (o6 _ (by omega)).trans hPg.2⟩
      have hO : ∀ q, (q < a ∨ a + 2 ≤ q) → h4 q = h q := fun q hq => (o6 q (by omega)).trans (hO q hq)
      refine g_iconst C (v := 1) dX8_append_38 (by decide) rfl ?_
      exact ret _ _ _ _ dX8_append_39 rfl (Or.inl ⟨by omega, rfl, hPg, hO⟩)
    · intro c13
      replace c13 := (not_congr (nI_ltI (a := n) (b := 16) (by omega) (by omega))).mp c13
      refine g_iconst C (v := 0) dX8_append_16 (by decide) rfl ?_
      exact ret _ _ _ _ dX8_append_17 rfl (Or.inr ⟨by omega, rfl, rfl⟩)
set_option maxHeartbeats 4000000 in
set_option maxRecDepth 100000 in
theorem k_X9_isRead (l : Launch) (D : va_G) (b z : Nat) {h : qH} {a : Nat} {tn : Nat → Int32} {e : Nat} {sl : Int32} (he : e < 10) (hSt : StAt D h a tn (nI e) sl) : qMi l D b yX9_isRead cX9_isRead 1 .boolean 0 0 [.ref (a)] h z (fun r h' => ((r = 1 ∧ 0 < e) ∨ (r = 0 ∧ ¬ 0 < e)) ∧ h' = h) := by
  refine q_i (L := [(0, .ref (a))]) (own := RX9) (by decide) rfl (Nat.le_of_ble_eq_true rfl) rfl ?_
  intro X C ret
  refine g_aload_n C 0 dX9_isRead_0 rfl rfl rfl ?_
  refine gf_9_15 C (hSt.1) (v := .int (nI (e))) rfl dX9_isRead_1 rfl ?_
  refine g_if_le C dX9_isRead_4 (tgt := 11) (by decide) (pc' := 7) rfl ?_ ?_
  · intro c4
    replace c4 := (nI_leI (a := e) (b := 0) (by omega) (by omega)).mp c4
    refine g_iconst C (v := 0) dX9_isRead_11 (by decide) rfl ?_
    exact ret _ _ _ _ dX9_isRead_12 rfl (⟨Or.inr ⟨rfl, by omega⟩, rfl⟩)
  · intro c4
    replace c4 := (not_congr (nI_leI (a := e) (b := 0) (by omega) (by omega))).mp c4
    refine g_iconst C (v := 1) dX9_isRead_7 (by decide) rfl ?_
    refine g_goto C dX9_isRead_8 (tgt := 12) (by decide) ?_
    exact ret _ _ _ _ dX9_isRead_12 rfl (⟨Or.inl ⟨rfl, by omega⟩, rfl⟩)
set_option maxHeartbeats 4000000 in
set_option maxRecDepth 100000 in
theorem k_X9_tenthsFrom (l : Launch) (D : va_G) (b z : Nat) {h : qH} {a : Nat} {tn : Nat → Int32} {e : Nat} {sl : Int32} (he : e < 10) (hSt : StAt D h a tn (nI e) sl) {v w : Nat} (hv : v < 3) (hw : w < 3) : qMi l D b yX9_tenthsFrom cX9_tenthsFrom 4 .int 0 0 [.ref (a), .int (nI (v)), .int (nI (w))] h z (fun r h' => r = tn (v * 3 + w) ∧ h' = h) := by
  refine q_i (L := [(0, .ref (a)), (1, .int (nI (v))), (2, .int (nI (w)))]) (own := RX9) (by decide) rfl (Nat.le_of_ble_eq_true rfl) rfl ?_
  intro X C ret
  refine g_iload_n C 1 dX9_tenthsFrom_0 rfl rfl rfl ?_
  refine g_if_lt C dX9_tenthsFrom_1 (tgt := 22) (by decide) (pc' := 4) rfl ?_ ?_
  · intro c1
    replace c1 := (nI_ltI (a := v) (b := 0) (by omega) (by omega)).mp c1
    omega
  · intro c1
    replace c1 := (not_congr (nI_ltI (a := v) (b := 0) (by omega) (by omega))).mp c1
    refine g_iload_n C 1 dX9_tenthsFrom_4 rfl rfl rfl ?_
    refine g_iconst C (v := 3) dX9_tenthsFrom_5 (by decide) rfl ?_
    refine g_icmp_ge C dX9_tenthsFrom_6 (tgt := 22) (by decide) (pc' := 9) rfl ?_ ?_
    · intro c6
      replace c6 := (nI_leI (a := 3) (b := v) (by omega) (by omega)).mp c6
      omega
    · intro c6
      replace c6 := (not_congr (nI_leI (a := 3) (b := v) (by omega) (by omega))).mp c6
      refine g_iload_n C 2 dX9_tenthsFrom_9 rfl rfl rfl ?_
      refine g_if_lt C dX9_tenthsFrom_10 (tgt := 22) (by decide) (pc' := 13) rfl ?_ ?_
      · intro c10
        replace c10 := (nI_ltI (a := w) (b := 0) (by omega) (by omega)).mp c10
        omega
      · intro c10
        replace c10 := (not_congr (nI_ltI (a := w) (b := 0) (by omega) (by omega))).mp c10
        refine g_iload_n C 2 dX9_tenthsFrom_13 rfl rfl rfl ?_
        refine g_iconst C (v := 3) dX9_tenthsFrom_14 (by decide) rfl ?_
        refine g_icmp_ge C dX9_tenthsFrom_15 (tgt := 22) (by decide) (pc' := 18) rfl ?_ ?_
        · intro c15
          replace c15 := (nI_leI (a := 3) (b := w) (by omega) (by omega)).mp c15
          omega
        · intro c15
          replace c15 := (not_congr (nI_leI (a := 3) (b := w) (by omega) (by omega))).mp c15
          refine g_iconst C (v := 1) dX9_tenthsFrom_18 (by decide) rfl ?_
          refine g_goto C dX9_tenthsFrom_19 (tgt := 23) (by decide) ?_
          refine g_istore_n C ([(3, .int (1)), (0, .ref (a)), (1, .int (nI (v))), (2, .int (nI (w)))]) dX9_tenthsFrom_23 rfl (by decide) rfl rfl ?_
          refine g_iload_n C 0 dX9_tenthsFrom_24 rfl rfl rfl ?_
          refine g_if_eq C dX9_tenthsFrom_25 (tgt := 41) (by decide) (pc' := 28) rfl (fun c25 => absurd c25 (by decide)) (fun _ => ?_)
          refine g_aload_n C 1 dX9_tenthsFrom_28 rfl rfl rfl ?_
          refine gf_9_9 C (hSt.1) (v := .ref (a + 1)) rfl dX9_tenthsFrom_29 rfl ?_
          refine g_iload_n C 2 dX9_tenthsFrom_32 rfl rfl rfl ?_
          refine g_iconst C (v := 3) dX9_tenthsFrom_33 (by decide) rfl ?_
          refine g_imul C dX9_tenthsFrom_34 rfl ?_
          refine g_topi (y := nI (v * 3)) (pk_mul _ _) ?_
          refine g_iload_n C 3 dX9_tenthsFrom_35 rfl rfl rfl ?_
          refine g_iadd C dX9_tenthsFrom_36 rfl ?_
          refine g_topi (y := nI ((v * 3) + w)) (nI_add _ _) ?_
          refine g_iald' C (hSt.2) (j := ((v * 3) + w)) rfl (by omega) (by decide) dX9_tenthsFrom_37 rfl ?_
          refine g_goto C dX9_tenthsFrom_38 (tgt := 42) (by decide) ?_
          exact ret _ _ _ _ dX9_tenthsFrom_42 rfl (⟨rfl, rfl⟩)
def F_fit (sl r : Int32) (w : Nat) : Int32 := if r = -1 then 1 else (if r = nI w then 10 - sl else (if r = nI ((w + 1) % 3) then sl else 0))
set_option maxHeartbeats 4000000 in
set_option maxRecDepth 100000 in
theorem k_X9_fit (l : Launch) (D : va_G) (b z : Nat) {h : qH} {a : Nat} {tn : Nat → Int32} {e : Nat} {sl : Int32} (he : e < 10) (hSt : StAt D h a tn (nI e) sl) (r : Int32) {w : Nat} (hw : w < 3) : qMi l D b yX9_fit cX9_fit 3 .int 0 0 [.ref (a), .int (r), .int (nI (w))] h z (fun r' h' => r' = F_fit sl r w ∧ h' = h) := by
  refine q_i (L := [(0, .ref (a)), (1, .int (r)), (2, .int (nI (w)))]) (own := RX9) (by decide) rfl (Nat.le_of_ble_eq_true rfl) rfl ?_
  intro X C ret
  refine g_iload_n C 1 dX9_fit_0 rfl rfl rfl ?_
  refine g_iconst C (v := -1) dX9_fit_1 (by decide) rfl ?_
  refine g_icmp_ne C dX9_fit_2 (tgt := 7) (by decide) (pc' := 5) rfl ?_ ?_
  · intro c2
    refine g_iload_n C 1 dX9_fit_7 rfl rfl rfl ?_
    refine g_iload_n C 2 dX9_fit_8 rfl rfl rfl ?_
    refine g_icmp_ne C dX9_fit_9 (tgt := 20) (by decide) (pc' := 12) rfl ?_ ?_
    · intro c9
      refine g_iload_n C 1 dX9_fit_20 rfl rfl rfl ?_
      refine g_iload_n C 2 dX9_fit_21 rfl rfl rfl ?_
      refine g_iconst C (v := 1) dX9_fit_22 (by decide) rfl ?_
      refine g_iadd C dX9_fit_23 rfl ?_
      refine g_topi (y := nI (w + 1)) (nI_add _ _) ?_
      refine g_iconst C (v := 3) dX9_fit_24 (by decide) rfl ?_
      refine g_irem C dX9_fit_25 (by decide) rfl ?_
      refine g_topi (y := nI ((w + 1) % 3)) (rem_nI (d := 3) (by omega) (by decide) (by decide)) ?_
      refine g_icmp_ne C dX9_fit_26 (tgt := 36) (by decide) (pc' := 29) rfl ?_ ?_
      · intro c26
        refine g_iconst C (v := 0) dX9_fit_36 (by decide) rfl ?_
        exact ret _ _ _ _ dX9_fit_37 rfl (⟨by simp only [F_fit, if_neg c2, if_neg c9, if_neg c26], rfl⟩)
      · intro c26
        refine g_aload_n C 0 dX9_fit_29 rfl rfl rfl ?_
        refine gf_9_25 C (hSt.1) (v := .int (sl)) rfl dX9_fit_30 rfl ?_
        refine g_goto C dX9_fit_33 (tgt := 37) (by decide) ?_
        exact ret _ _ _ _ dX9_fit_37 rfl (⟨by simp only [F_fit, if_neg c2, if_neg c9, if_pos c26], rfl⟩)
    · intro c9
      refine g_bipush C (v := 10) dX9_fit_12 (by decide) rfl ?_
      refine g_aload_n C 0 dX9_fit_14 rfl rfl rfl ?_
      refine gf_9_25 C (hSt.1) (v := .int (sl)) rfl dX9_fit_15 rfl ?_
      refine g_isub C dX9_fit_18 rfl ?_
      exact ret _ _ _ _ dX9_fit_19 rfl (⟨by simp only [F_fit, if_neg c2, if_pos c9], rfl⟩)
  · intro c2
    refine g_iconst C (v := 1) dX9_fit_5 (by decide) rfl ?_
    exact ret _ _ _ _ dX9_fit_6 rfl (⟨by simp only [F_fit, if_pos c2], rfl⟩)
set_option maxHeartbeats 4000000 in
set_option maxRecDepth 100000 in
theorem k_X9_read (l : Launch) (D : va_G) (b z : Nat) {h : qH} {a : Nat} {tn : Nat → Int32} {e : Nat} {sl : Int32} (he : e < 10) (hSt : StAt D h a tn (nI e) sl) {pg : Nat} {cs : Nat → Int32} {n : Nat} (hn : n ≤ 16) (hn4 : 14 ≤ n) (hPg : PgAt D h pg cs (nI n)) (hdis : pg + 2 ≤ a ∨ a + 2 ≤ pg) : qMv l D b yX9_read cX9_read 4 2 43 [.ref (a), .ref (pg)] h z (fun h' => (∃ tn', StAt D h' a tn' (F_dg (cs 12)) (F_dg (cs 13)) ∧ ∀ i j, i < 3 → j < 3 → tn' (i * 3 + j) = F_dg (cs (i * 4 + j))) ∧ (∀ q, (q < a ∨ a + 2 ≤ q) → h' q = h q)) := by
  refine q_v (L := [(0, .ref (a)), (1, .ref (pg))]) (own := RX9) (by decide) rfl (Nat.le_of_ble_eq_true rfl) rfl ?_
  intro X C ret
  have hO : ∀ q, (q < a ∨ a + 2 ≤ q) → h q = h q := fun _ _ => rfl
  refine g_iconst C (v := 0) dX9_read_0 (by decide) rfl ?_
  refine g_istore_n C ([(2, .int (0)), (0, .ref (a)), (1, .ref (pg))]) dX9_read_1 rfl (by decide) rfl rfl ?_
  have loop2 : ∀ (N : Nat) (v : Nat) (h1 : qH) (tn1 : Nat → Int32), 3 - v < N → (v ≤ 3) → (StAt D h1 a tn1 (nI e) sl) → (PgAt D h1 pg cs (nI n)) → (∀ q, (q < a ∨ a + 2 ≤ q) → h1 q = h q) → (∀ i j, j < 3 → i < v → tn1 (i * 3 + j) = F_dg (cs (i * 4 + j))) → qG X 0 0 z h1 2 [(2, .int (nI (v))), (0, .ref (a)), (1, .ref (pg))] [] := by
    intro N
    induction N with
    | zero => intro v h1 tn1 hm; exact absurd hm (Nat.not_lt_zero _)
    | succ N ih2 =>
      intro v h1 tn1 hm hv hSt hPg hO hT
      refine g_iload_n C 0 dX9_read_2 rfl rfl rfl ?_
      refine g_iconst C (v := 3) dX9_read_3 (by decide) rfl ?_
      refine g_icmp_ge C dX9_read_4 (tgt := 45) (by decide) (pc' := 7) rfl ?_ ?_
      · intro c4
        replace c4 := (nI_leI (a := 3) (b := v) (by omega) (by omega)).mp c4
        refine g_aload_n C 1 dX9_read_45 rfl rfl rfl ?_
        refine g_aload_n C 2 dX9_read_46 rfl rfl rfl ?_
        refine g_bipush C (v := 12) dX9_read_47 (by decide) rfl ?_
        refine g_callVi C (As := [.int (12)]) (q := (RX8, TX8, 2)) (k_X8_digitAt l D b z hn hPg (k := 12) (by omega)) hw_9_21 (hPg.1) rfl (by decide) rfl rfl (Nat.le_of_ble_eq_true rfl) ⟨Nat.zero_le _, Nat.zero_le _⟩ dX9_read_49 (pc' := 52) rfl ?_
        rintro r1 h9 ⟨er, e9⟩
        subst h9; subst er
        refine pf_9_15 C (hSt.1) (v := .int (F_dg (cs (12)))) rfl rfl (Nat.le_of_ble_eq_true rfl) dX9_read_52 (pc' := 55) rfl (fun h2 e3 o4 => ?_)
        have hSt : StAt D h2 (a) (tn1) (F_dg (cs (12))) (sl) := ⟨e3, (o4 _ (by omega)).trans hSt.2⟩
        have hPg : PgAt D h2 (pg) (cs) (nI (n)) := ⟨(o4 _ (by omega)).trans hPg.1, (o4 _ (by omega)).trans hPg.2⟩
        have hO : ∀ q, (q < a ∨ a + 2 ≤ q) → h2 q = h q := fun q hq => (o4 q (by omega)).trans (hO q hq)
        refine g_aload_n C 1 dX9_read_55 rfl rfl rfl ?_
        refine g_aload_n C 2 dX9_read_56 rfl rfl rfl ?_
        refine g_bipush C (v := 13) dX9_read_57 (by decide) rfl ?_
        refine g_callVi C (As := [.int (13)]) (q := (RX8, TX8, 2)) (k_X8_digitAt l D b z hn hPg (k := 13) (by omega)) hw_9_21 (hPg.1) rfl (by decide) rfl rfl (Nat.le_of_ble_eq_true rfl) ⟨Nat.zero_le _, Nat.zero_le _⟩ dX9_read_59 (pc' := 62) rfl ?_
        rintro r5 h9 ⟨er, e9⟩
        subst h9; subst er
        refine pf_9_25 C (hSt.1) (v := .int (F_dg (cs (13)))) rfl rfl (Nat.le_of_ble_eq_true rfl) dX9_read_62 (pc' := 65) rfl (fun h6 e7 o8 => ?_)
        have hSt : StAt D h6 (a) (tn1) (F_dg (cs (12))) (F_dg (cs (13))) := ⟨e7, (o8 _ (by omega)).trans hSt.2⟩
        have hPg : PgAt D h6 (pg) (cs) (nI (n)) := ⟨(o8 _ (by omega)).trans hPg.1, (o8 _ (by omega)).trans hPg.2⟩
        have hO : ∀ q, (q < a ∨ a + 2 ≤ q) → h6 q = h q := fun q hq => (o8 q (by omega)).trans (hO q hq)
        exact ret _ _ _ dX9_read_65 (⟨⟨_, hSt, fun i j hi hj => hT i j hj (by omega)⟩, hO⟩)
      · intro c4
        replace c4 := (not_congr (nI_leI (a := 3) (b := v) (by omega) (by omega))).mp c4
        refine g_iconst C (v := 0) dX9_read_7 (by decide) rfl ?_
        refine g_istore_n C ([(3, .int (0)), (2, .int (nI (v))), (0, .ref (a)), (1, .ref (pg))]) dX9_read_8 rfl (by decide) rfl rfl ?_
        have loop9 : ∀ (N : Nat) (w : Nat) (h2 : qH) (tn2 : Nat → Int32), 3 - w < N → (w ≤ 3) → (StAt D h2 a tn2 (nI e) sl) → (PgAt D h2 pg cs (nI n)) → (∀ q, (q < a ∨ a + 2 ≤ q) → h2 q = h q) → (∀ i j, j < 3 → (i < v ∨ (i = v ∧ j < w)) → tn2 (i * 3 + j) = F_dg (cs (i * 4 + j))) → qG X 0 0 z h2 9 [(3, .int (nI (w))), (2, .int (nI (v))), (0, .ref (a)), (1, .ref (pg))] [] := by
          intro N
          induction N with
          | zero => intro w h2 tn2 hm; exact absurd hm (Nat.not_lt_zero _)
          | succ N ih9 =>
            intro w h2 tn2 hm hw hSt hPg hO hT
            refine g_iload_n C 0 dX9_read_9 rfl rfl rfl ?_
            refine g_iconst C (v := 3) dX9_read_10 (by decide) rfl ?_
            refine g_icmp_ge C dX9_read_11 (tgt := 39) (by decide) (pc' := 14) rfl ?_ ?_
            · intro c11
              replace c11 := (nI_leI (a := 3) (b := w) (by omega) (by omega)).mp c11
              refine g_iinc C (v := nI (v + 1)) 1 ([(2, .int (nI (v + 1))), (3, .int (nI (w))), (0, .ref (a)), (1, .ref (pg))]) dX9_read_39 rfl (nI_1 _) (by decide) rfl rfl ?_
              refine g_goto C dX9_read_42 (tgt := 2) (by decide) ?_
              refine q_lsub [0, 2, 3] (L' := [(2, .int (nI (v + 1))), (0, .ref (a)), (1, .ref (pg))]) rfl ?_
              exact ih2 (v + 1) (h2) (tn2) (by omega) (by omega) (hSt) (hPg) (hO) (fun i j hj g => hT i j hj (by omega))
            · intro c11
              replace c11 := (not_congr (nI_leI (a := 3) (b := w) (by omega) (by omega))).mp c11
              refine g_aload_n C 2 dX9_read_14 rfl rfl rfl ?_
              refine gf_9_9 C (hSt.1) (v := .ref (a + 1)) rfl dX9_read_15 rfl ?_
              refine g_iload_n C 1 dX9_read_18 rfl rfl rfl ?_
              refine g_iconst C (v := 3) dX9_read_19 (by decide) rfl ?_
              refine g_imul C dX9_read_20 rfl ?_
              refine g_topi (y := nI (v * 3)) (pk_mul _ _) ?_
              refine g_iload_n C 0 dX9_read_21 rfl rfl rfl ?_
              refine g_iadd C dX9_read_22 rfl ?_
              refine g_topi (y := nI ((v * 3) + w)) (nI_add _ _) ?_
              refine g_aload_n C 3 dX9_read_23 rfl rfl rfl ?_
              refine g_iload_n C 1 dX9_read_24 rfl rfl rfl ?_
              refine g_iconst C (v := 4) dX9_read_25 (by decide) rfl ?_
              refine g_imul C dX9_read_26 rfl ?_
              refine g_topi (y := nI (v * 4)) (pk_mul _ _) ?_
              refine g_iload_n C 0 dX9_read_27 rfl rfl rfl ?_
              refine g_iadd C dX9_read_28 rfl ?_
              refine g_topi (y := nI ((v * 4) + w)) (nI_add _ _) ?_
              refine g_callVi C (As := [.int (nI (((v * 4) + w)))]) (q := (RX8, TX8, 2)) (k_X8_digitAt l D b z hn hPg (k := ((v * 4) + w)) (by omega)) hw_9_21 (hPg.1) rfl (by decide) rfl rfl (Nat.le_of_ble_eq_true rfl) ⟨Nat.zero_le _, Nat.zero_le _⟩ dX9_read_29 (pc' := 32) rfl ?_
              rintro r9 h9 ⟨er, e9⟩
              subst h9; subst er
              refine g_iast' C (hSt.2) (j := ((v * 3) + w)) rfl (by omega) (by decide) dX9_read_32 (pc' := 33) rfl (fun h10 e11 o12 => ?_)
              have hSt : StAt D h10 (a) (upd (tn2) (((v * 3) + w)) (F_dg (cs (((v * 4) + w))))) (nI (e)) (sl) := ⟨(o12 _ (by omega)).trans hSt.1, e11⟩
              have hPg : PgAt D h10 (pg) (cs) (nI (n)) := ⟨(o12 _ (by omega)).trans hPg.1, (o12 _ (by omega)).trans hPg.2⟩
              have hO : ∀ q, (q < a ∨ a + 2 ≤ q) → h10 q = h q := fun q hq => (o12 q (by omega)).trans (hO q hq)
              refine g_iinc C (v := nI (w + 1)) 0 ([(3, .int (nI (w + 1))), (2, .int (nI (v))), (0, .ref (a)), (1, .ref (pg))]) dX9_read_33 rfl (nI_1 _) (by decide) rfl rfl ?_
              refine g_goto C dX9_read_36 (tgt := 9) (by decide) ?_
              exact ih9 (w + 1) (h10) (upd (tn2) (((v * 3) + w)) (F_dg (cs (((v * 4) + w))))) (by omega) (by omega) (hSt) (hPg) (hO) (fun i j hj g => by by_cases e1 : i = v ∧ j = w; (obtain ⟨rfl, rfl⟩ := e1; exact pk_us); exact (pk_un (by omega)).trans (hT i j hj (by omega)))
        exact loop9 _ (0) (h1) (tn1) (Nat.lt_succ_self _) (by omega) (hSt) (hPg) (hO) (fun i j hj g => hT i j hj (by omega))
  exact loop2 _ (0) (h) (tn) (Nat.lt_succ_self _) (by omega) (hSt) (hPg) (hO) (fun i j hj g => absurd g (Nat.not_lt_zero _))
set_option maxHeartbeats 4000000 in
set_option maxRecDepth 100000 in
theorem k_X0_append (l : Launch) (D : va_G) (b z : Nat) {h : qH} {a : Nat} {ws rs : Nat → Int32} {n : Nat} (hn : n ≤ 12) (hBk : BkAt D h a ws rs (nI n)) (x y : Int32) : qMi l D b yX0_append cX0_append 3 .boolean 0 0 [.ref (a), .int (x), .int (y)] h z (fun r h' => (n < 12 ∧ r = 1 ∧ BkAt D h' a (upd ws n x) (upd rs n y) (nI (n + 1)) ∧ (∀ q, (q < a ∨ a + 3 ≤ q) → h' q = h q)) ∨ (n = 12 ∧ r = 0 ∧ h' = h)) := by
  refine q_i (L := [(0, .ref (a)), (1, .int (x)), (2, .int (y))]) (own := RX0) (by decide) rfl (Nat.le_of_ble_eq_true rfl) rfl ?_
  intro X C ret
  have hO : ∀ q, (q < a ∨ a + 3 ≤ q) → h q = h q := fun _ _ => rfl
  refine g_aload_n C 0 dX0_append_0 rfl rfl rfl ?_
  refine gf_0_18 C (hBk.1) (v := .int (nI (n))) rfl dX0_append_1 rfl ?_
  refine g_if_lt C dX0_append_4 (tgt := 16) (by decide) (pc' := 7) rfl ?_ ?_
  · intro c4
    replace c4 := (nI_ltI (a := n) (b := 0) (by omega) (by omega)).mp c4
    omega
  · intro c4
    replace c4 := (not_congr (nI_ltI (a := n) (b := 0) (by omega) (by omega))).mp c4
    refine g_aload_n C 0 dX0_append_7 rfl rfl rfl ?_
    refine gf_0_18 C (hBk.1) (v := .int (nI (n))) rfl dX0_append_8 rfl ?_
    refine g_bipush C (v := 12) dX0_append_11 (by decide) rfl ?_
    refine g_icmp_lt C dX0_append_13 (tgt := 18) (by decide) (pc' := 16) rfl ?_ ?_
    · intro c13
      replace c13 := (nI_ltI (a := n) (b := 12) (by omega) (by omega)).mp c13
      refine g_aload_n C 0 dX0_append_18 rfl rfl rfl ?_
      refine gf_0_11 C (hBk.1) (v := .ref (a + 1)) rfl dX0_append_19 rfl ?_
      refine g_aload_n C 0 dX0_append_22 rfl rfl rfl ?_
      refine gf_0_18 C (hBk.1) (v := .int (nI (n))) rfl dX0_append_23 rfl ?_
      refine g_iload_n C 1 dX0_append_26 rfl rfl rfl ?_
      refine g_iast' C (hBk.2.1) (j := n) rfl (by omega) (by decide) dX0_append_27 (pc' := 28) rfl (fun h1 e2 o3 => ?_)
      have hBk : BkAt D h1 (a) (upd (ws) (n) (x)) (rs) (nI (n)) := ⟨(o3 _ (by omega)).trans hBk.1, e2, (o3 _ (by omega)).trans hBk.2.2⟩
      have hO : ∀ q, (q < a ∨ a + 3 ≤ q) → h1 q = h q := fun q hq => (o3 q (by omega)).trans (hO q hq)
      refine g_aload_n C 0 dX0_append_28 rfl rfl rfl ?_
      refine gf_0_15 C (hBk.1) (v := .ref (a + 2)) rfl dX0_append_29 rfl ?_
      refine g_aload_n C 0 dX0_append_32 rfl rfl rfl ?_
      refine gf_0_18 C (hBk.1) (v := .int (nI (n))) rfl dX0_append_33 rfl ?_
      refine g_iload_n C 2 dX0_append_36 rfl rfl rfl ?_
      refine g_iast' C (hBk.2.2) (j := n) rfl (by omega) (by decide) dX0_append_37 (pc' := 38) rfl (fun h4 e5 o6 => ?_)
      have hBk : BkAt D h4 (a) (upd (ws) (n) (x)) (upd (rs) (n) (y)) (nI (n)) := ⟨(o6 _ (by omega)).trans hBk.1, (o6 _ (by omega)).trans hBk.2.1, e5⟩
      have hO : ∀ q, (q < a ∨ a + 3 ≤ q) → h4 q = h q := fun q hq => (o6 q (by omega)).trans (hO q hq)
      refine g_aload_n C 0 dX0_append_38 rfl rfl rfl ?_
      refine g_dup C rfl dX0_append_39 rfl ?_
      refine gf_0_18 C (hBk.1) (v := .int (nI (n))) rfl dX0_append_40 rfl ?_
      refine g_iconst C (v := 1) dX0_append_43 (by decide) rfl ?_
      refine g_iadd C dX0_append_44 rfl ?_
      refine g_topi (y := nI (n + 1)) (nI_add _ _) ?_
      refine pf_0_18 C (hBk.1) (v := .int (nI ((n + 1)))) rfl rfl (Nat.le_of_ble_eq_true rfl) dX0_append_45 (pc' := 48) rfl (fun h7 e8 o9 => ?_)
      have hBk : BkAt D h7 (a) (upd (ws) (n) (x)) (upd (rs) (n) (y)) (nI ((n + 1))) := ⟨e8, (o9 _ (by omega)).trans hBk.2.1, (o9 _ (by omega)).trans hBk.2.2⟩
      have hO : ∀ q, (q < a ∨ a + 3 ≤ q) → h7 q = h q := fun q hq => (o9 q (by omega)).trans (hO q hq)
      refine g_iconst C (v := 1) dX0_append_48 (by decide) rfl ?_
      exact ret _ _ _ _ dX0_append_49 rfl (Or.inl ⟨by omega, rfl, hBk, hO⟩)
    · intro c13
      replace c13 := (not_congr (nI_ltI (a := n) (b := 12) (by omega) (by omega))).mp c13
      refine g_iconst C (v := 0) dX0_append_16 (by decide) rfl ?_
      exact ret _ _ _ _ dX0_append_17 rfl (Or.inr ⟨by omega, rfl, rfl⟩)
set_option maxHeartbeats 4000000 in
set_option maxRecDepth 100000 in
theorem k_X0_isSeen (l : Launch) (D : va_G) (b z : Nat) {h : qH} {a : Nat} {ws rs : Nat → Int32} {n : Nat} (hn : n ≤ 12) (hBk : BkAt D h a ws rs (nI n)) {i y : Nat} (hi : i < 12) (hy : y ≤ 4) : qMi l D b yX0_isSeen cX0_isSeen 3 .boolean 0 0 [.ref (a), .int (nI (i)), .int (nI (y))] h z (fun r h' => ((r = 1 ∧ (i + y < n ∧ ¬ rs i = -1)) ∨ (r = 0 ∧ ¬ (i + y < n ∧ ¬ rs i = -1))) ∧ h' = h) := by
  refine q_i (L := [(0, .ref (a)), (1, .int (nI (i))), (2, .int (nI (y)))]) (own := RX0) (by decide) rfl (Nat.le_of_ble_eq_true rfl) rfl ?_
  intro X C ret
  refine g_iload_n C 1 dX0_isSeen_0 rfl rfl rfl ?_
  refine g_if_lt C dX0_isSeen_1 (tgt := 34) (by decide) (pc' := 4) rfl ?_ ?_
  · intro c1
    replace c1 := (nI_ltI (a := i) (b := 0) (by omega) (by omega)).mp c1
    omega
  · intro c1
    replace c1 := (not_congr (nI_ltI (a := i) (b := 0) (by omega) (by omega))).mp c1
    refine g_iload_n C 1 dX0_isSeen_4 rfl rfl rfl ?_
    refine g_bipush C (v := 12) dX0_isSeen_5 (by decide) rfl ?_
    refine g_icmp_ge C dX0_isSeen_7 (tgt := 34) (by decide) (pc' := 10) rfl ?_ ?_
    · intro c7
      replace c7 := (nI_leI (a := 12) (b := i) (by omega) (by omega)).mp c7
      refine g_iconst C (v := 0) dX0_isSeen_34 (by decide) rfl ?_
      exact ret _ _ _ _ dX0_isSeen_35 rfl ((by first | exact ⟨Or.inl ⟨rfl, by omega, by assumption⟩, rfl⟩ | exact ⟨Or.inr ⟨rfl, fun g => absurd g.1 (by omega)⟩, rfl⟩ | exact ⟨Or.inr ⟨rfl, fun g => g.2 (by assumption)⟩, rfl⟩))
    · intro c7
      replace c7 := (not_congr (nI_leI (a := 12) (b := i) (by omega) (by omega))).mp c7
      refine g_iload_n C 1 dX0_isSeen_10 rfl rfl rfl ?_
      refine g_iload_n C 2 dX0_isSeen_11 rfl rfl rfl ?_
      refine g_iadd C dX0_isSeen_12 rfl ?_
      refine g_topi (y := nI (i + y)) (nI_add _ _) ?_
      refine g_aload_n C 0 dX0_isSeen_13 rfl rfl rfl ?_
      refine gf_0_18 C (hBk.1) (v := .int (nI (n))) rfl dX0_isSeen_14 rfl ?_
      refine g_icmp_ge C dX0_isSeen_17 (tgt := 34) (by decide) (pc' := 20) rfl ?_ ?_
      · intro c17
        replace c17 := (nI_leI (a := n) (b := (i + y)) (by omega) (by omega)).mp c17
        refine g_iconst C (v := 0) dX0_isSeen_34 (by decide) rfl ?_
        exact ret _ _ _ _ dX0_isSeen_35 rfl ((by first | exact ⟨Or.inl ⟨rfl, by omega, by assumption⟩, rfl⟩ | exact ⟨Or.inr ⟨rfl, fun g => absurd g.1 (by omega)⟩, rfl⟩ | exact ⟨Or.inr ⟨rfl, fun g => g.2 (by assumption)⟩, rfl⟩))
      · intro c17
        replace c17 := (not_congr (nI_leI (a := n) (b := (i + y)) (by omega) (by omega))).mp c17
        refine g_aload_n C 0 dX0_isSeen_20 rfl rfl rfl ?_
        refine gf_0_15 C (hBk.1) (v := .ref (a + 2)) rfl dX0_isSeen_21 rfl ?_
        refine g_iload_n C 1 dX0_isSeen_24 rfl rfl rfl ?_
        refine g_iald' C (hBk.2.2) (j := i) rfl (by omega) (by decide) dX0_isSeen_25 rfl ?_
        refine g_iconst C (v := -1) dX0_isSeen_26 (by decide) rfl ?_
        refine g_icmp_eq C dX0_isSeen_27 (tgt := 34) (by decide) (pc' := 30) rfl ?_ ?_
        · intro c27
          refine g_iconst C (v := 0) dX0_isSeen_34 (by decide) rfl ?_
          exact ret _ _ _ _ dX0_isSeen_35 rfl ((by first | exact ⟨Or.inl ⟨rfl, by omega, by assumption⟩, rfl⟩ | exact ⟨Or.inr ⟨rfl, fun g => absurd g.1 (by omega)⟩, rfl⟩ | exact ⟨Or.inr ⟨rfl, fun g => g.2 (by assumption)⟩, rfl⟩))
        · intro c27
          refine g_iconst C (v := 1) dX0_isSeen_30 (by decide) rfl ?_
          refine g_goto C dX0_isSeen_31 (tgt := 35) (by decide) ?_
          exact ret _ _ _ _ dX0_isSeen_35 rfl ((by first | exact ⟨Or.inl ⟨rfl, by omega, by assumption⟩, rfl⟩ | exact ⟨Or.inr ⟨rfl, fun g => absurd g.1 (by omega)⟩, rfl⟩ | exact ⟨Or.inr ⟨rfl, fun g => g.2 (by assumption)⟩, rfl⟩))
def seenC (rs : Nat → Int32) (n y : Nat) : Nat → Nat
  | 0 => 0
  | i + 1 => seenC rs n y i + (if i + y < n ∧ ¬ rs i = -1 then 1 else 0)
def wrongC (ws rs : Nat → Int32) (n y : Nat) : Nat → Nat
  | 0 => 0
  | i + 1 => wrongC ws rs n y i + (if (i + y < n ∧ ¬ rs i = -1) ∧ ¬ rs i = ws (i + y) then 1 else 0)
theorem seenC_le (rs : Nat → Int32) (n y : Nat) : ∀ i, seenC rs n y i ≤ i
  | 0 => Nat.le_refl _
  | i + 1 => by have := seenC_le rs n y i; unfold seenC; split <;> omega
theorem wrongC_le (ws rs : Nat → Int32) (n y : Nat) : ∀ i, wrongC ws rs n y i ≤ i
  | 0 => Nat.le_refl _
  | i + 1 => by have := wrongC_le ws rs n y i; unfold wrongC; split <;> omega
set_option maxHeartbeats 4000000 in
set_option maxRecDepth 100000 in
theorem k_X0_readingsSeen (l : Launch) (D : va_G) (b z : Nat) {h : qH} {a : Nat} {ws rs : Nat → Int32} {n : Nat} (hn : n ≤ 12) (hBk : BkAt D h a ws rs (nI n)) {y : Nat} (hy : y ≤ 4) : qMi l D b yX0_readingsSeen cX0_readingsSeen 4 .int 1 22 [.ref (a), .int (nI (y))] h z (fun r h' => r = nI (seenC rs n y 12) ∧ h' = h) := by
  refine q_i (L := [(0, .ref (a)), (1, .int (nI (y)))]) (own := RX0) (by decide) rfl (Nat.le_of_ble_eq_true rfl) rfl ?_
  intro X C ret
  refine g_iconst C (v := 0) dX0_readingsSeen_0 (by decide) rfl ?_
  refine g_istore_n C ([(2, .int (0)), (0, .ref (a)), (1, .int (nI (y)))]) dX0_readingsSeen_1 rfl (by decide) rfl rfl ?_
  refine g_iconst C (v := 0) dX0_readingsSeen_2 (by decide) rfl ?_
  refine g_istore_n C ([(3, .int (0)), (2, .int (0)), (0, .ref (a)), (1, .int (nI (y)))]) dX0_readingsSeen_3 rfl (by decide) rfl rfl ?_
  have loop4 : ∀ (N : Nat) (i : Nat) (s : Int32), 12 - i < N → (i ≤ 12) → (s = nI (seenC rs n y i)) → qG X 0 0 z h 4 [(3, .int (nI (i))), (2, .int (s)), (0, .ref (a)), (1, .int (nI (y)))] [] := by
    intro N
    induction N with
    | zero => intro i s hm; exact absurd hm (Nat.not_lt_zero _)
    | succ N ih4 =>
      intro i s hm hi hs
      refine g_iload_n C 0 dX0_readingsSeen_4 rfl rfl rfl ?_
      refine g_bipush C (v := 12) dX0_readingsSeen_5 (by decide) rfl ?_
      refine g_icmp_ge C dX0_readingsSeen_7 (tgt := 33) (by decide) (pc' := 10) rfl ?_ ?_
      · intro c7
        replace c7 := (nI_leI (a := 12) (b := i) (by omega) (by omega)).mp c7
        refine g_iload_n C 1 dX0_readingsSeen_33 rfl rfl rfl ?_
        exact ret _ _ _ _ dX0_readingsSeen_34 rfl (⟨by rw [hs, (by omega : i = 12)], rfl⟩)
      · intro c7
        replace c7 := (not_congr (nI_leI (a := 12) (b := i) (by omega) (by omega))).mp c7
        refine g_iload_n C 1 dX0_readingsSeen_10 rfl rfl rfl ?_
        refine g_aload_n C 2 dX0_readingsSeen_11 rfl rfl rfl ?_
        refine g_iload_n C 0 dX0_readingsSeen_12 rfl rfl rfl ?_
        refine g_iload_n C 3 dX0_readingsSeen_13 rfl rfl rfl ?_
        refine g_callVi C (As := [.int (nI (i)), .int (nI (y))]) (q := (RX0, TX0, 3)) (k_X0_isSeen l D b z hn hBk (i := i) (y := y) (by omega) (by omega)) hw_0_22 (hBk.1) rfl (by decide) rfl rfl (Nat.le_of_ble_eq_true rfl) ⟨Nat.zero_le _, Nat.zero_le _⟩ dX0_readingsSeen_14 (pc' := 17) rfl ?_
        rintro r1 h9 ⟨⟨er, hp14⟩ | ⟨er, hp14⟩, e9⟩
        · subst h9; subst er
          refine g_if_eq C dX0_readingsSeen_17 (tgt := 24) (by decide) (pc' := 20) rfl (fun c17 => absurd c17 (by decide)) (fun _ => ?_)
          refine g_iconst C (v := 1) dX0_readingsSeen_20 (by decide) rfl ?_
          refine g_goto C dX0_readingsSeen_21 (tgt := 25) (by decide) ?_
          refine g_iadd C dX0_readingsSeen_25 rfl ?_
          refine g_istore_n C ([(2, .int ((s) + (1))), (3, .int (nI (i))), (0, .ref (a)), (1, .int (nI (y)))]) dX0_readingsSeen_26 rfl (by decide) rfl rfl ?_
          refine g_iinc C (v := nI (i + 1)) 1 ([(3, .int (nI (i + 1))), (2, .int ((s) + (1))), (0, .ref (a)), (1, .int (nI (y)))]) dX0_readingsSeen_27 rfl (nI_1 _) (by decide) rfl rfl ?_
          refine g_goto C dX0_readingsSeen_30 (tgt := 4) (by decide) ?_
          exact ih4 (i + 1) ((s) + (1)) (by omega) (by omega) (by rw [hs]; simp only [seenC, if_neg c7, if_pos hp14]; exact nI_add _ _)
        · subst h9; subst er
          refine g_if_eq C dX0_readingsSeen_17 (tgt := 24) (by decide) (pc' := 20) rfl (fun _ => ?_) (fun c17 => absurd (by decide) c17)
          refine g_iconst C (v := 0) dX0_readingsSeen_24 (by decide) rfl ?_
          refine g_iadd C dX0_readingsSeen_25 rfl ?_
          refine g_istore_n C ([(2, .int ((s) + (0))), (3, .int (nI (i))), (0, .ref (a)), (1, .int (nI (y)))]) dX0_readingsSeen_26 rfl (by decide) rfl rfl ?_
          refine g_iinc C (v := nI (i + 1)) 1 ([(3, .int (nI (i + 1))), (2, .int ((s) + (0))), (0, .ref (a)), (1, .int (nI (y)))]) dX0_readingsSeen_27 rfl (nI_1 _) (by decide) rfl rfl ?_
          refine g_goto C dX0_readingsSeen_30 (tgt := 4) (by decide) ?_
          exact ih4 (i + 1) ((s) + (0)) (by omega) (by omega) (by rw [hs]; simp only [seenC, if_neg c7, if_neg hp14]; exact nI_add _ _)
  exact loop4 _ (0) (0) (Nat.lt_succ_self _) (by omega) (rfl)
set_option maxHeartbeats 4000000 in
set_option maxRecDepth 100000 in
theorem k_X0_wrongReadings (l : Launch) (D : va_G) (b z : Nat) {h : qH} {a : Nat} {ws rs : Nat → Int32} {n : Nat} (hn : n ≤ 12) (hBk : BkAt D h a ws rs (nI n)) {y : Nat} (hy : y ≤ 4) : qMi l D b yX0_wrongReadings cX0_wrongReadings 5 .int 1 22 [.ref (a), .int (nI (y))] h z (fun r h' => r = nI (wrongC ws rs n y 12) ∧ h' = h) := by
  refine q_i (L := [(0, .ref (a)), (1, .int (nI (y)))]) (own := RX0) (by decide) rfl (Nat.le_of_ble_eq_true rfl) rfl ?_
  intro X C ret
  refine g_iconst C (v := 0) dX0_wrongReadings_0 (by decide) rfl ?_
  refine g_istore_n C ([(2, .int (0)), (0, .ref (a)), (1, .int (nI (y)))]) dX0_wrongReadings_1 rfl (by decide) rfl rfl ?_
  refine g_iconst C (v := 0) dX0_wrongReadings_2 (by decide) rfl ?_
  refine g_istore_n C ([(3, .int (0)), (2, .int (0)), (0, .ref (a)), (1, .int (nI (y)))]) dX0_wrongReadings_3 rfl (by decide) rfl rfl ?_
  have loop4 : ∀ (N : Nat) (i : Nat) (s : Int32), 12 - i < N → (i ≤ 12) → (s = nI (wrongC ws rs n y i)) → qG X 0 0 z h 4 [(3, .int (nI (i))), (2, .int (s)), (0, .ref (a)), (1, .int (nI (y)))] [] := by
    intro N
    induction N with
    | zero => intro i s hm; exact absurd hm (Nat.not_lt_zero _)
    | succ N ih4 =>
      intro i s hm hi hs
      refine g_iload_n C 0 dX0_wrongReadings_4 rfl rfl rfl ?_
      refine g_bipush C (v := 12) dX0_wrongReadings_5 (by decide) rfl ?_
      refine g_icmp_ge C dX0_wrongReadings_7 (tgt := 61) (by decide) (pc' := 10) rfl ?_ ?_
      · intro c7
        replace c7 := (nI_leI (a := 12) (b := i) (by omega) (by omega)).mp c7
        refine g_iload_n C 1 dX0_wrongReadings_61 rfl rfl rfl ?_
        exact ret _ _ _ _ dX0_wrongReadings_62 rfl (⟨by rw [hs, (by omega : i = 12)], rfl⟩)
      · intro c7
        replace c7 := (not_congr (nI_leI (a := 12) (b := i) (by omega) (by omega))).mp c7
        refine g_iload_n C 0 dX0_wrongReadings_10 rfl rfl rfl ?_
        refine g_iload_n C 3 dX0_wrongReadings_11 rfl rfl rfl ?_
        refine g_iadd C dX0_wrongReadings_12 rfl ?_
        refine g_topi (y := nI (i + y)) (nI_add _ _) ?_
        refine g_istore C ([(4, .int (nI ((i + y)))), (3, .int (nI (i))), (2, .int (s)), (0, .ref (a)), (1, .int (nI (y)))]) dX0_wrongReadings_13 (by decide) rfl rfl ?_
        refine g_aload_n C 3 dX0_wrongReadings_15 rfl rfl rfl ?_
        refine g_iload_n C 1 dX0_wrongReadings_16 rfl rfl rfl ?_
        refine g_iload_n C 4 dX0_wrongReadings_17 rfl rfl rfl ?_
        refine g_callVi C (As := [.int (nI (i)), .int (nI (y))]) (q := (RX0, TX0, 3)) (k_X0_isSeen l D b z hn hBk (i := i) (y := y) (by omega) (by omega)) hw_0_22 (hBk.1) rfl (by decide) rfl rfl (Nat.le_of_ble_eq_true rfl) ⟨Nat.zero_le _, Nat.zero_le _⟩ dX0_wrongReadings_18 (pc' := 21) rfl ?_
        rintro r1 h9 ⟨⟨er, hp18⟩ | ⟨er, hp18⟩, e9⟩
        · subst h9; subst er
          refine g_if_eq C dX0_wrongReadings_21 (tgt := 55) (by decide) (pc' := 24) rfl (fun c21 => absurd c21 (by decide)) (fun _ => ?_)
          refine g_iload C 0 dX0_wrongReadings_24 rfl rfl ?_
          refine g_if_lt C dX0_wrongReadings_26 (tgt := 55) (by decide) (pc' := 29) rfl ?_ ?_
          · intro c26
            replace c26 := (nI_ltI (a := (i + y)) (b := 0) (by omega) (by omega)).mp c26
            omega
          · intro c26
            replace c26 := (not_congr (nI_ltI (a := (i + y)) (b := 0) (by omega) (by omega))).mp c26
            refine g_iload C 0 dX0_wrongReadings_29 rfl rfl ?_
            refine g_bipush C (v := 12) dX0_wrongReadings_31 (by decide) rfl ?_
            refine g_icmp_ge C dX0_wrongReadings_33 (tgt := 55) (by decide) (pc' := 36) rfl ?_ ?_
            · intro c33
              replace c33 := (nI_leI (a := 12) (b := (i + y)) (by omega) (by omega)).mp c33
              omega
            · intro c33
              replace c33 := (not_congr (nI_leI (a := 12) (b := (i + y)) (by omega) (by omega))).mp c33
              refine g_aload_n C 3 dX0_wrongReadings_36 rfl rfl rfl ?_
              refine gf_0_15 C (hBk.1) (v := .ref (a + 2)) rfl dX0_wrongReadings_37 rfl ?_
              refine g_iload_n C 1 dX0_wrongReadings_40 rfl rfl rfl ?_
              refine g_iald' C (hBk.2.2) (j := i) rfl (by omega) (by decide) dX0_wrongReadings_41 rfl ?_
              refine g_aload_n C 3 dX0_wrongReadings_42 rfl rfl rfl ?_
              refine gf_0_11 C (hBk.1) (v := .ref (a + 1)) rfl dX0_wrongReadings_43 rfl ?_
              refine g_iload C 0 dX0_wrongReadings_46 rfl rfl ?_
              refine g_iald' C (hBk.2.1) (j := (i + y)) rfl (by omega) (by decide) dX0_wrongReadings_48 rfl ?_
              refine g_icmp_eq C dX0_wrongReadings_49 (tgt := 55) (by decide) (pc' := 52) rfl ?_ ?_
              · intro c49
                refine g_iinc C (v := nI (i + 1)) 1 ([(3, .int (nI (i + 1))), (4, .int (nI ((i + y)))), (2, .int (s)), (0, .ref (a)), (1, .int (nI (y)))]) dX0_wrongReadings_55 rfl (nI_1 _) (by decide) rfl rfl ?_
                refine g_goto C dX0_wrongReadings_58 (tgt := 4) (by decide) ?_
                refine q_lsub [0, 2, 3, 4] (L' := [(3, .int (nI (i + 1))), (2, .int (s)), (0, .ref (a)), (1, .int (nI (y)))]) rfl ?_
                exact ih4 (i + 1) (s) (by omega) (by omega) (by rw [hs]; simp only [wrongC, if_neg (show ¬ ((i + y < n ∧ ¬ rs i = -1) ∧ ¬ rs i = ws (i + y)) from fun g => g.2 c49)]; exact rfl)
              · intro c49
                refine g_iinc C (v := s + Int32.ofInt (1)) 2 ([(2, .int (s + Int32.ofInt (1))), (4, .int (nI ((i + y)))), (3, .int (nI (i))), (0, .ref (a)), (1, .int (nI (y)))]) dX0_wrongReadings_52 rfl rfl (by decide) rfl rfl ?_
                refine g_iinc C (v := nI (i + 1)) 2 ([(3, .int (nI (i + 1))), (2, .int (s + Int32.ofInt (1))), (4, .int (nI ((i + y)))), (0, .ref (a)), (1, .int (nI (y)))]) dX0_wrongReadings_55 rfl (nI_1 _) (by decide) rfl rfl ?_
                refine g_goto C dX0_wrongReadings_58 (tgt := 4) (by decide) ?_
                refine q_lsub [0, 1, 3, 4] (L' := [(3, .int (nI (i + 1))), (2, .int (s + Int32.ofInt (1))), (0, .ref (a)), (1, .int (nI (y)))]) rfl ?_
                exact ih4 (i + 1) (s + Int32.ofInt (1)) (by omega) (by omega) (by rw [hs]; simp only [wrongC, if_pos (show ((i + y < n ∧ ¬ rs i = -1) ∧ ¬ rs i = ws (i + y)) from And.intro hp18 c49)]; exact nI_1 _)
        · subst h9; subst er
          refine g_if_eq C dX0_wrongReadings_21 (tgt := 55) (by decide) (pc' := 24) rfl (fun _ => ?_) (fun c21 => absurd (by decide) c21)
          refine g_iinc C (v := nI (i + 1)) 1 ([(3, .int (nI (i + 1))), (4, .int (nI ((i + y)))), (2, .int (s)), (0, .ref (a)), (1, .int (nI (y)))]) dX0_wrongReadings_55 rfl (nI_1 _) (by decide) rfl rfl ?_
          refine g_goto C dX0_wrongReadings_58 (tgt := 4) (by decide) ?_
          refine q_lsub [0, 2, 3, 4] (L' := [(3, .int (nI (i + 1))), (2, .int (s)), (0, .ref (a)), (1, .int (nI (y)))]) rfl ?_
          exact ih4 (i + 1) (s) (by omega) (by omega) (by rw [hs]; simp only [wrongC, if_neg (show ¬ ((i + y < n ∧ ¬ rs i = -1) ∧ ¬ rs i = ws (i + y)) from fun g => hp18 g.1)]; exact rfl)
  exact loop4 _ (0) (0) (Nat.lt_succ_self _) (by omega) (rfl)
set_option maxHeartbeats 4000000 in
set_option maxRecDepth 100000 in
theorem k_X0_copyFrom (l : Launch) (D : va_G) (b z : Nat) {h : qH} {a o : Nat} {ws rs ows ors : Nat → Int32} {n m : Int32} (hBk : BkAt D h a ws rs n) (hOb : BkAt D h o ows ors m) (hdis : o + 3 ≤ a ∨ a + 3 ≤ o) : qMv l D b yX0_copyFrom cX0_copyFrom 3 0 0 [.ref (a), .ref (o)] h z (fun h' => (∃ w2 r2, BkAt D h' a w2 r2 m ∧ (∀ j, j < 12 → w2 j = ows j) ∧ (∀ j, j < 12 → r2 j = ors j)) ∧ (∀ q, (q < a ∨ a + 3 ≤ q) → h' q = h q)) := by
  refine q_v (L := [(0, .ref (a)), (1, .ref (o))]) (own := RX0) (by decide) rfl (Nat.le_of_ble_eq_true rfl) rfl ?_
  intro X C ret
  have hO : ∀ q, (q < a ∨ a + 3 ≤ q) → h q = h q := fun _ _ => rfl
  refine g_aload_n C 0 dX0_copyFrom_0 rfl rfl rfl ?_
  refine g_aload_n C 1 dX0_copyFrom_1 rfl rfl rfl ?_
  refine gf_0_18 C (hOb.1) (v := .int (m)) rfl dX0_copyFrom_2 rfl ?_
  refine pf_0_18 C (hBk.1) (v := .int (m)) rfl rfl (Nat.le_of_ble_eq_true rfl) dX0_copyFrom_5 (pc' := 8) rfl (fun h1 e2 o3 => ?_)
  have hBk : BkAt D h1 (a) (ws) (rs) (m) := ⟨e2, (o3 _ (by omega)).trans hBk.2.1, (o3 _ (by omega)).trans hBk.2.2⟩
  have hOb : BkAt D h1 (o) (ows) (ors) (m) := ⟨(o3 _ (by omega)).trans hOb.1, (o3 _ (by omega)).trans hOb.2.1, (o3 _ (by omega)).trans hOb.2.2⟩
  have hO : ∀ q, (q < a ∨ a + 3 ≤ q) → h1 q = h q := fun q hq => (o3 q (by omega)).trans (hO q hq)
  refine g_iconst C (v := 0) dX0_copyFrom_8 (by decide) rfl ?_
  refine g_istore_n C ([(2, .int (0)), (0, .ref (a)), (1, .ref (o))]) dX0_copyFrom_9 rfl (by decide) rfl rfl ?_
  have loop10 : ∀ (N : Nat) (i : Nat) (h2 : qH) (w2 : Nat → Int32) (r2 : Nat → Int32), 12 - i < N → (i ≤ 12) → (BkAt D h2 a w2 r2 m) → (BkAt D h2 o ows ors m) → (∀ q, (q < a ∨ a + 3 ≤ q) → h2 q = h q) → (∀ j, j < i → w2 j = ows j) → (∀ j, j < i → r2 j = ors j) → qG X 0 0 z h2 10 [(2, .int (nI (i))), (0, .ref (a)), (1, .ref (o))] [] := by
    intro N
    induction N with
    | zero => intro i h2 w2 r2 hm; exact absurd hm (Nat.not_lt_zero _)
    | succ N ih10 =>
      intro i h2 w2 r2 hm hi hBk hOb hO hw hr
      refine g_iload_n C 0 dX0_copyFrom_10 rfl rfl rfl ?_
      refine g_bipush C (v := 12) dX0_copyFrom_11 (by decide) rfl ?_
      refine g_icmp_ge C dX0_copyFrom_13 (tgt := 46) (by decide) (pc' := 16) rfl ?_ ?_
      · intro c13
        replace c13 := (nI_leI (a := 12) (b := i) (by omega) (by omega)).mp c13
        exact ret _ _ _ dX0_copyFrom_46 (⟨⟨_, _, hBk, fun j g => hw j (by omega), fun j g => hr j (by omega)⟩, hO⟩)
      · intro c13
        replace c13 := (not_congr (nI_leI (a := 12) (b := i) (by omega) (by omega))).mp c13
        refine g_aload_n C 1 dX0_copyFrom_16 rfl rfl rfl ?_
        refine gf_0_11 C (hBk.1) (v := .ref (a + 1)) rfl dX0_copyFrom_17 rfl ?_
        refine g_iload_n C 0 dX0_copyFrom_20 rfl rfl rfl ?_
        refine g_aload_n C 2 dX0_copyFrom_21 rfl rfl rfl ?_
        refine gf_0_11 C (hOb.1) (v := .ref (o + 1)) rfl dX0_copyFrom_22 rfl ?_
        refine g_iload_n C 0 dX0_copyFrom_25 rfl rfl rfl ?_
        refine g_iald' C (hOb.2.1) (j := i) rfl (by omega) (by decide) dX0_copyFrom_26 rfl ?_
        refine g_iast' C (hBk.2.1) (j := i) rfl (by omega) (by decide) dX0_copyFrom_27 (pc' := 28) rfl (fun h4 e5 o6 => ?_)
        have hBk : BkAt D h4 (a) (upd (w2) (i) (ows (i))) (r2) (m) := ⟨(o6 _ (by omega)).trans hBk.1, e5, (o6 _ (by omega)).trans hBk.2.2⟩
        have hOb : BkAt D h4 (o) (ows) (ors) (m) := ⟨(o6 _ (by omega)).trans hOb.1, (o6 _ (by omega)).trans hOb.2.1, (o6 _ (by omega)).trans hOb.2.2⟩
        have hO : ∀ q, (q < a ∨ a + 3 ≤ q) → h4 q = h q := fun q hq => (o6 q (by omega)).trans (hO q hq)
        refine g_aload_n C 1 dX0_copyFrom_28 rfl rfl rfl ?_
        refine gf_0_15 C (hBk.1) (v := .ref (a + 2)) rfl dX0_copyFrom_29 rfl ?_
        refine g_iload_n C 0 dX0_copyFrom_32 rfl rfl rfl ?_
        refine g_aload_n C 2 dX0_copyFrom_33 rfl rfl rfl ?_
        refine gf_0_15 C (hOb.1) (v := .ref (o + 2)) rfl dX0_copyFrom_34 rfl ?_
        refine g_iload_n C 0 dX0_copyFrom_37 rfl rfl rfl ?_
        refine g_iald' C (hOb.2.2) (j := i) rfl (by omega) (by decide) dX0_copyFrom_38 rfl ?_
        refine g_iast' C (hBk.2.2) (j := i) rfl (by omega) (by decide) dX0_copyFrom_39 (pc' := 40) rfl (fun h7 e8 o9 => ?_)
        have hBk : BkAt D h7 (a) (upd (w2) (i) (ows (i))) (upd (r2) (i) (ors (i))) (m) := ⟨(o9 _ (by omega)).trans hBk.1, (o9 _ (by omega)).trans hBk.2.1, e8⟩
        have hOb : BkAt D h7 (o) (ows) (ors) (m) := ⟨(o9 _ (by omega)).trans hOb.1, (o9 _ (by omega)).trans hOb.2.1, (o9 _ (by omega)).trans hOb.2.2⟩
        have hO : ∀ q, (q < a ∨ a + 3 ≤ q) → h7 q = h q := fun q hq => (o9 q (by omega)).trans (hO q hq)
        refine g_iinc C (v := nI (i + 1)) 0 ([(2, .int (nI (i + 1))), (0, .ref (a)), (1, .ref (o))]) dX0_copyFrom_40 rfl (nI_1 _) (by decide) rfl rfl ?_
        refine g_goto C dX0_copyFrom_43 (tgt := 10) (by decide) ?_
        exact ih10 (i + 1) (h7) (upd (w2) (i) (ows (i))) (upd (r2) (i) (ors (i))) (by omega) (by omega) (hBk) (hOb) (hO) (fun j g => by by_cases e1 : j = i; (subst e1; exact pk_us); exact (pk_un e1).trans (hw j (by omega))) (fun j g => by by_cases e1 : j = i; (subst e1; exact pk_us); exact (pk_un e1).trans (hr j (by omega)))
  exact loop10 _ (0) (h1) (ws) (rs) (Nat.lt_succ_self _) (by omega) (hBk) (hOb) (hO) (fun j g => absurd g (Nat.not_lt_zero _)) (fun j g => absurd g (Nat.not_lt_zero _))
def gcL : Nat → Int64 → Int64 → Int64
  | 0, a, _ => a
  | k + 1, a, b => if b = 0 then a else gcL k b (a - a / b * b)
set_option maxHeartbeats 4000000 in
set_option maxRecDepth 100000 in
theorem k_X11_greatestDivisor (l : Launch) (D : va_G) (b z : Nat) (h : qH) (a c : Int64) : qMl l D b yX11_greatestDivisor cX11_greatestDivisor 11 0 0 [.long (a), .long (c)] h z (fun r h' => r = gcL 1000 a c ∧ h' = h) := by
  refine q_l (L := [(0, .long (a)), (2, .long (c))]) (own := RX11) (by decide) rfl (Nat.le_of_ble_eq_true rfl) rfl ?_
  intro X C ret
  refine g_lload_n C 0 dX11_greatestDivisor_0 rfl rfl rfl ?_
  refine g_lstore C ([(4, .long (a)), (0, .long (a)), (2, .long (c))]) dX11_greatestDivisor_1 (by decide) rfl rfl ?_
  refine g_lload_n C 2 dX11_greatestDivisor_3 rfl rfl rfl ?_
  refine g_lstore C ([(6, .long (c)), (4, .long (a)), (0, .long (a)), (2, .long (c))]) dX11_greatestDivisor_4 (by decide) rfl rfl ?_
  refine g_iconst C (v := 0) dX11_greatestDivisor_6 (by decide) rfl ?_
  refine g_istore C ([(8, .int (0)), (6, .long (c)), (4, .long (a)), (0, .long (a)), (2, .long (c))]) dX11_greatestDivisor_7 (by decide) rfl rfl ?_
  have loop9 : ∀ (N : Nat) (i : Nat) (m : Nat) (x : Int64) (y : Int64), 1000 - i < N → (i + m = 1000) → (gcL m x y = gcL 1000 a c) → qG X 0 0 z h 9 [(8, .int (nI (i))), (6, .long (y)), (4, .long (x)), (0, .long (a)), (2, .long (c))] [] := by
    intro N
    induction N with
    | zero => intro i m x y hm; exact absurd hm (Nat.not_lt_zero _)
    | succ N ih9 =>
      intro i m x y hm hm hg
      refine g_iload C 0 dX11_greatestDivisor_9 rfl rfl ?_
      refine g_sipush C (v := 1000) dX11_greatestDivisor_11 (by decide) rfl ?_
      refine g_icmp_ge C dX11_greatestDivisor_14 (tgt := 45) (by decide) (pc' := 17) rfl ?_ ?_
      · intro c14
        replace c14 := (nI_leI (a := 1000) (b := i) (by omega) (by omega)).mp c14
        refine g_lload C 2 dX11_greatestDivisor_45 rfl rfl ?_
        exact ret _ _ _ _ dX11_greatestDivisor_47 (⟨by rw [← hg, (by omega : m = 0)]; rfl, rfl⟩)
      · intro c14
        replace c14 := (not_congr (nI_leI (a := 1000) (b := i) (by omega) (by omega))).mp c14
        refine g_lload C 1 dX11_greatestDivisor_17 rfl rfl ?_
        refine g_lconst C (v := 0) dX11_greatestDivisor_19 (by decide) rfl ?_
        refine g_lcmp C dX11_greatestDivisor_20 rfl ?_
        refine g_if_eq C dX11_greatestDivisor_21 (tgt := 45) (by decide) (pc' := 24) rfl ?_ ?_
        · intro c21
          replace c21 := (lg_cmp_eq _ _).mp c21
          refine g_lload C 2 dX11_greatestDivisor_45 rfl rfl ?_
          exact ret _ _ _ _ dX11_greatestDivisor_47 (⟨by rw [← hg]; cases m with | zero => rfl | succ m2 => simp only [gcL, if_pos c21], rfl⟩)
        · intro c21
          replace c21 := (not_congr (lg_cmp_eq _ _)).mp c21
          refine g_lload C 2 dX11_greatestDivisor_24 rfl rfl ?_
          refine g_lload C 1 dX11_greatestDivisor_26 rfl rfl ?_
          refine g_lrem C dX11_greatestDivisor_28 c21 rfl ?_
          refine g_lstore C ([(9, .long ((x) - (x) / (y) * (y))), (8, .int (nI (i))), (6, .long (y)), (4, .long (x)), (0, .long (a)), (2, .long (c))]) dX11_greatestDivisor_29 (by decide) rfl rfl ?_
          refine g_lload C 2 dX11_greatestDivisor_31 rfl rfl ?_
          refine g_lstore C ([(4, .long (y)), (9, .long ((x) - (x) / (y) * (y))), (8, .int (nI (i))), (6, .long (y)), (0, .long (a)), (2, .long (c))]) dX11_greatestDivisor_33 (by decide) rfl rfl ?_
          refine g_lload C 1 dX11_greatestDivisor_35 rfl rfl ?_
          refine g_lstore C ([(6, .long ((x) - (x) / (y) * (y))), (4, .long (y)), (9, .long ((x) - (x) / (y) * (y))), (8, .int (nI (i))), (0, .long (a)), (2, .long (c))]) dX11_greatestDivisor_37 (by decide) rfl rfl ?_
          refine g_iinc C (v := nI (i + 1)) 3 ([(8, .int (nI (i + 1))), (6, .long ((x) - (x) / (y) * (y))), (4, .long (y)), (9, .long ((x) - (x) / (y) * (y))), (0, .long (a)), (2, .long (c))]) dX11_greatestDivisor_39 rfl (nI_1 _) (by decide) rfl rfl ?_
          refine g_goto C dX11_greatestDivisor_42 (tgt := 9) (by decide) ?_
          refine q_lsub [0, 1, 2, 4, 5] (L' := [(8, .int (nI (i + 1))), (6, .long ((x) - (x) / (y) * (y))), (4, .long (y)), (0, .long (a)), (2, .long (c))]) rfl ?_
          exact ih9 (i + 1) (m - 1) (y) (x - x / y * y) (by omega) (by omega) (by obtain ⟨m2, rfl⟩ : ∃ m2, m = m2 + 1 := ⟨m - 1, by omega⟩; rw [← hg]; simp only [gcL, if_neg c21]; rfl)
  exact loop9 _ (0) (1000) (a) (c) (Nat.lt_succ_self _) (by omega) (rfl)
def F_low (a c : Int64) (p : Int32) : Int64 := (if (p) = 0 then (if (gcL 1000 (a) (c)) ≤ 0 then (a) else ((a) / (gcL 1000 (a) (c)))) else (if (gcL 1000 (a) (c)) ≤ 0 then (c) else ((c) / (gcL 1000 (a) (c)))))
set_option maxHeartbeats 4000000 in
set_option maxRecDepth 100000 in
theorem k_X11_lowestTerms (l : Launch) (D : va_G) (b z : Nat) (h : qH) (a c : Int64) (p : Int32) : qMl l D b yX11_lowestTerms cX11_lowestTerms 9 1 30 [.long (a), .long (c), .int (p)] h z (fun r h' => r = F_low a c p ∧ h' = h) := by
  refine q_l (L := [(0, .long (a)), (2, .long (c)), (4, .int (p))]) (own := RX11) (by decide) rfl (Nat.le_of_ble_eq_true rfl) rfl ?_
  intro X C ret
  refine g_lload_n C 0 dX11_lowestTerms_0 rfl rfl rfl ?_
  refine g_lload_n C 1 dX11_lowestTerms_1 rfl rfl rfl ?_
  refine g_callSl C (As := [.long (a), .long (c)]) (k_X11_greatestDivisor l D b z h (a) (c)) hw_11_305 (by decide) rfl rfl (Nat.le_of_ble_eq_true rfl) ⟨Nat.zero_le _, Nat.zero_le _⟩ dX11_lowestTerms_2 (pc' := 5) rfl ?_
  rintro r1 h9 ⟨er, e9⟩
  subst h9; subst er
  refine g_lstore C ([(5, .long (gcL 1000 (a) (c))), (0, .long (a)), (2, .long (c)), (4, .int (p))]) dX11_lowestTerms_5 (by decide) rfl rfl ?_
  refine g_iload C 3 dX11_lowestTerms_7 rfl rfl ?_
  refine g_if_ne C dX11_lowestTerms_9 (tgt := 16) (by decide) (pc' := 12) rfl ?_ ?_
  · intro c9
    refine g_lload_n C 2 dX11_lowestTerms_16 rfl rfl rfl ?_
    refine g_lstore C ([(7, .long (c)), (5, .long (gcL 1000 (a) (c))), (0, .long (a)), (2, .long (c)), (4, .int (p))]) dX11_lowestTerms_17 (by decide) rfl rfl ?_
    refine g_lload C 1 dX11_lowestTerms_19 rfl rfl ?_
    refine g_lconst C (v := 0) dX11_lowestTerms_21 (by decide) rfl ?_
    refine g_lcmp C dX11_lowestTerms_22 rfl ?_
    refine g_if_le C dX11_lowestTerms_23 (tgt := 34) (by decide) (pc' := 26) rfl ?_ ?_
    · intro c23
      replace c23 := (lg_cmp_le _ _).mp c23
      refine g_lload C 0 dX11_lowestTerms_34 rfl rfl ?_
      exact ret _ _ _ _ dX11_lowestTerms_36 (⟨by simp only [F_low, if_neg c9, if_pos c23], rfl⟩)
    · intro c23
      replace c23 := (not_congr (lg_cmp_le _ _)).mp c23
      refine g_lload C 0 dX11_lowestTerms_26 rfl rfl ?_
      refine g_lload C 1 dX11_lowestTerms_28 rfl rfl ?_
      refine g_ldiv C dX11_lowestTerms_30 (fun e => c23 (by rw [e]; decide)) rfl ?_
      refine g_goto C dX11_lowestTerms_31 (tgt := 36) (by decide) ?_
      exact ret _ _ _ _ dX11_lowestTerms_36 (⟨by simp only [F_low, if_neg c9, if_neg c23], rfl⟩)
  · intro c9
    refine g_lload_n C 1 dX11_lowestTerms_12 rfl rfl rfl ?_
    refine g_goto C dX11_lowestTerms_13 (tgt := 17) (by decide) ?_
    refine g_lstore C ([(7, .long (a)), (5, .long (gcL 1000 (a) (c))), (0, .long (a)), (2, .long (c)), (4, .int (p))]) dX11_lowestTerms_17 (by decide) rfl rfl ?_
    refine g_lload C 1 dX11_lowestTerms_19 rfl rfl ?_
    refine g_lconst C (v := 0) dX11_lowestTerms_21 (by decide) rfl ?_
    refine g_lcmp C dX11_lowestTerms_22 rfl ?_
    refine g_if_le C dX11_lowestTerms_23 (tgt := 34) (by decide) (pc' := 26) rfl ?_ ?_
    · intro c23
      replace c23 := (lg_cmp_le _ _).mp c23
      refine g_lload C 0 dX11_lowestTerms_34 rfl rfl ?_
      exact ret _ _ _ _ dX11_lowestTerms_36 (⟨by simp only [F_low, if_pos c9, if_pos c23], rfl⟩)
    · intro c23
      replace c23 := (not_congr (lg_cmp_le _ _)).mp c23
      refine g_lload C 0 dX11_lowestTerms_26 rfl rfl ?_
      refine g_lload C 1 dX11_lowestTerms_28 rfl rfl ?_
      refine g_ldiv C dX11_lowestTerms_30 (fun e => c23 (by rw [e]; decide)) rfl ?_
      refine g_goto C dX11_lowestTerms_31 (tgt := 36) (by decide) ?_
      exact ret _ _ _ _ dX11_lowestTerms_36 (⟨by simp only [F_low, if_pos c9, if_neg c23], rfl⟩)

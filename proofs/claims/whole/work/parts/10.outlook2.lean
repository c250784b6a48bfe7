/-! the outlook: what is read off the tables, and what changes it -/
def inP (lo hi : Nat) (x : Int32) : Prop := ∃ k : Nat, x = nI k ∧ lo ≤ k ∧ k ≤ hi
theorem inP_nI {lo hi k : Nat} (h1 : lo ≤ k) (h2 : k ≤ hi) : inP lo hi (nI k) := ⟨k, rfl, h1, h2⟩
theorem inP_of {lo hi : Nat} {x : Int32} (hhi : hi < 2 ^ 31) (h0 : (lo : Int) ≤ x.toInt) (h1 : x.toInt ≤ (hi : Int)) : inP lo hi x := by
  obtain ⟨j, hj, rfl⟩ := nI_of (x := x) (by rw [Int32.lt_iff_toInt_lt]; have e0 : (0 : Int32).toInt = 0 := by decide
                                            omega)
  rw [nI_toInt hj] at h0 h1
  exact ⟨j, rfl, by omega, by omega⟩
theorem inP_to {lo hi : Nat} {x : Int32} (hhi : hi < 2 ^ 31) (h : inP lo hi x) : (lo : Int) ≤ x.toInt ∧ x.toInt ≤ (hi : Int) := by
  obtain ⟨k, rfl, h1, h2⟩ := h
  rw [nI_toInt (by omega)]
  omega
set_option maxHeartbeats 4000000 in
set_option maxRecDepth 100000 in
theorem kp_X11_isWeather (l : Launch) (D : va_G) (b z : Nat) (h : qH) (x : Int32) : qMi l D b yX11_isWeather cX11_isWeather 1 .boolean 0 0 [.int (x)] h z (fun r h' => ((r = 1 ∧ inP 0 2 x) ∨ (r = 0 ∧ ¬ inP 0 2 x)) ∧ h' = h) := by
  refine q_i (L := [(0, .int (x))]) (own := RX11) (by decide) rfl (Nat.le_of_ble_eq_true rfl) rfl ?_
  intro X C ret
  refine g_iload_n C 0 dX11_isWeather_0 rfl rfl rfl ?_
  refine g_if_lt C dX11_isWeather_1 (tgt := 13) (by decide) (pc' := 4) rfl ?_ ?_
  · intro c1
    refine g_iconst C (v := 0) dX11_isWeather_13 (by decide) rfl ?_
    exact ret _ _ _ _ dX11_isWeather_14 rfl (⟨Or.inr ⟨rfl, (fun g => by have e0 : (0 : Int32).toInt = 0 := (by decide); have e3 : (3 : Int32).toInt = 3 := (by decide); have g2 := inP_to (by decide) g; simp only [Int32.lt_iff_toInt_lt, Int32.le_iff_toInt_le] at c1; omega)⟩, rfl⟩)
  · intro c1
    refine g_iload_n C 0 dX11_isWeather_4 rfl rfl rfl ?_
    refine g_iconst C (v := 3) dX11_isWeather_5 (by decide) rfl ?_
    refine g_icmp_ge C dX11_isWeather_6 (tgt := 13) (by decide) (pc' := 9) rfl ?_ ?_
    · intro c6
      refine g_iconst C (v := 0) dX11_isWeather_13 (by decide) rfl ?_
      exact ret _ _ _ _ dX11_isWeather_14 rfl (⟨Or.inr ⟨rfl, (fun g => by have e0 : (0 : Int32).toInt = 0 := (by decide); have e3 : (3 : Int32).toInt = 3 := (by decide); have g2 := inP_to (by decide) g; simp only [Int32.lt_iff_toInt_lt, Int32.le_iff_toInt_le] at c1 c6; omega)⟩, rfl⟩)
    · intro c6
      refine g_iconst C (v := 1) dX11_isWeather_9 (by decide) rfl ?_
      refine g_goto C dX11_isWeather_10 (tgt := 14) (by decide) ?_
      exact ret _ _ _ _ dX11_isWeather_14 rfl (⟨Or.inl ⟨rfl, (by have e0 : (0 : Int32).toInt = 0 := (by decide); have e3 : (3 : Int32).toInt = 3 := (by decide); simp only [Int32.lt_iff_toInt_lt, Int32.le_iff_toInt_le] at c1 c6; exact inP_of (by decide) (by omega) (by omega))⟩, rfl⟩)
set_option maxHeartbeats 4000000 in
set_option maxRecDepth 100000 in
theorem kp_X11_isAhead (l : Launch) (D : va_G) (b z : Nat) (h : qH) (x : Int32) : qMi l D b yX11_isAhead cX11_isAhead 1 .boolean 0 0 [.int (x)] h z (fun r h' => ((r = 1 ∧ inP 1 6 x) ∨ (r = 0 ∧ ¬ inP 1 6 x)) ∧ h' = h) := by
  refine q_i (L := [(0, .int (x))]) (own := RX11) (by decide) rfl (Nat.le_of_ble_eq_true rfl) rfl ?_
  intro X C ret
  refine g_iload_n C 0 dX11_isAhead_0 rfl rfl rfl ?_
  refine g_iconst C (v := 1) dX11_isAhead_1 (by decide) rfl ?_
  refine g_icmp_lt C dX11_isAhead_2 (tgt := 15) (by decide) (pc' := 5) rfl ?_ ?_
  · intro c2
    refine g_iconst C (v := 0) dX11_isAhead_15 (by decide) rfl ?_
    exact ret _ _ _ _ dX11_isAhead_16 rfl (⟨Or.inr ⟨rfl, (fun g => by have e1 : (1 : Int32).toInt = 1 := (by decide); have e6 : (6 : Int32).toInt = 6 := (by decide); have g2 := inP_to (by decide) g; simp only [Int32.lt_iff_toInt_lt, Int32.le_iff_toInt_le] at c2; omega)⟩, rfl⟩)
  · intro c2
    refine g_iload_n C 0 dX11_isAhead_5 rfl rfl rfl ?_
    refine g_bipush C (v := 6) dX11_isAhead_6 (by decide) rfl ?_
    refine g_icmp_gt C dX11_isAhead_8 (tgt := 15) (by decide) (pc' := 11) rfl ?_ ?_
    · intro c8
      refine g_iconst C (v := 0) dX11_isAhead_15 (by decide) rfl ?_
      exact ret _ _ _ _ dX11_isAhead_16 rfl (⟨Or.inr ⟨rfl, (fun g => by have e1 : (1 : Int32).toInt = 1 := (by decide); have e6 : (6 : Int32).toInt = 6 := (by decide); have g2 := inP_to (by decide) g; simp only [Int32.lt_iff_toInt_lt, Int32.le_iff_toInt_le] at c2 c8; omega)⟩, rfl⟩)
    · intro c8
      refine g_iconst C (v := 1) dX11_isAhead_11 (by decide) rfl ?_
      refine g_goto C dX11_isAhead_12 (tgt := 16) (by decide) ?_
      exact ret _ _ _ _ dX11_isAhead_16 rfl (⟨Or.inl ⟨rfl, (by have e1 : (1 : Int32).toInt = 1 := (by decide); have e6 : (6 : Int32).toInt = 6 := (by decide); simp only [Int32.lt_iff_toInt_lt, Int32.le_iff_toInt_le] at c2 c8; exact inP_of (by decide) (by omega) (by omega))⟩, rfl⟩)
set_option maxHeartbeats 4000000 in
set_option maxRecDepth 100000 in
theorem kp_X11_isPrice (l : Launch) (D : va_G) (b z : Nat) (h : qH) (x : Int32) : qMi l D b yX11_isPrice cX11_isPrice 1 .boolean 0 0 [.int (x)] h z (fun r h' => ((r = 1 ∧ inP 1 9 x) ∨ (r = 0 ∧ ¬ inP 1 9 x)) ∧ h' = h) := by
  refine q_i (L := [(0, .int (x))]) (own := RX11) (by decide) rfl (Nat.le_of_ble_eq_true rfl) rfl ?_
  intro X C ret
  refine g_iload_n C 0 dX11_isPrice_0 rfl rfl rfl ?_
  refine g_iconst C (v := 1) dX11_isPrice_1 (by decide) rfl ?_
  refine g_icmp_lt C dX11_isPrice_2 (tgt := 15) (by decide) (pc' := 5) rfl ?_ ?_
  · intro c2
    refine g_iconst C (v := 0) dX11_isPrice_15 (by decide) rfl ?_
    exact ret _ _ _ _ dX11_isPrice_16 rfl (⟨Or.inr ⟨rfl, (fun g => by have e1 : (1 : Int32).toInt = 1 := (by decide); have e9 : (9 : Int32).toInt = 9 := (by decide); have g2 := inP_to (by decide) g; simp only [Int32.lt_iff_toInt_lt, Int32.le_iff_toInt_le] at c2; omega)⟩, rfl⟩)
  · intro c2
    refine g_iload_n C 0 dX11_isPrice_5 rfl rfl rfl ?_
    refine g_bipush C (v := 9) dX11_isPrice_6 (by decide) rfl ?_
    refine g_icmp_gt C dX11_isPrice_8 (tgt := 15) (by decide) (pc' := 11) rfl ?_ ?_
    · intro c8
      refine g_iconst C (v := 0) dX11_isPrice_15 (by decide) rfl ?_
      exact ret _ _ _ _ dX11_isPrice_16 rfl (⟨Or.inr ⟨rfl, (fun g => by have e1 : (1 : Int32).toInt = 1 := (by decide); have e9 : (9 : Int32).toInt = 9 := (by decide); have g2 := inP_to (by decide) g; simp only [Int32.lt_iff_toInt_lt, Int32.le_iff_toInt_le] at c2 c8; omega)⟩, rfl⟩)
    · intro c8
      refine g_iconst C (v := 1) dX11_isPrice_11 (by decide) rfl ?_
      refine g_goto C dX11_isPrice_12 (tgt := 16) (by decide) ?_
      exact ret _ _ _ _ dX11_isPrice_16 rfl (⟨Or.inl ⟨rfl, (by have e1 : (1 : Int32).toInt = 1 := (by decide); have e9 : (9 : Int32).toInt = 9 := (by decide); simp only [Int32.lt_iff_toInt_lt, Int32.le_iff_toInt_le] at c2 c8; exact inP_of (by decide) (by omega) (by omega))⟩, rfl⟩)
set_option maxHeartbeats 4000000 in
set_option maxRecDepth 100000 in
theorem kp_X11_isPart (l : Launch) (D : va_G) (b z : Nat) (h : qH) (x : Int32) : qMi l D b yX11_isPart cX11_isPart 1 .boolean 0 0 [.int (x)] h z (fun r h' => ((r = 1 ∧ inP 0 1 x) ∨ (r = 0 ∧ ¬ inP 0 1 x)) ∧ h' = h) := by
  refine q_i (L := [(0, .int (x))]) (own := RX11) (by decide) rfl (Nat.le_of_ble_eq_true rfl) rfl ?_
  intro X C ret
  refine g_iload_n C 0 dX11_isPart_0 rfl rfl rfl ?_
  refine g_if_eq C dX11_isPart_1 (tgt := 9) (by decide) (pc' := 4) rfl ?_ ?_
  · intro c1
    refine g_iconst C (v := 1) dX11_isPart_9 (by decide) rfl ?_
    refine g_goto C dX11_isPart_10 (tgt := 14) (by decide) ?_
    exact ret _ _ _ _ dX11_isPart_14 rfl (⟨Or.inl ⟨rfl, (by first | (rw [c1]; exact ⟨0, rfl, by omega, by omega⟩) | (rw [c6]; exact ⟨1, rfl, by omega, by omega⟩))⟩, rfl⟩)
  · intro c1
    refine g_iload_n C 0 dX11_isPart_4 rfl rfl rfl ?_
    refine g_iconst C (v := 1) dX11_isPart_5 (by decide) rfl ?_
    refine g_icmp_ne C dX11_isPart_6 (tgt := 13) (by decide) (pc' := 9) rfl ?_ ?_
    · intro c6
      refine g_iconst C (v := 0) dX11_isPart_13 (by decide) rfl ?_
      exact ret _ _ _ _ dX11_isPart_14 rfl (⟨Or.inr ⟨rfl, (fun g => by obtain ⟨k, rfl, g1, g2⟩ := g; rcases (show k = 0 ∨ k = 1 by omega) with rfl | rfl; exact c1 rfl; exact c6 rfl)⟩, rfl⟩)
    · intro c6
      refine g_iconst C (v := 1) dX11_isPart_9 (by decide) rfl ?_
      refine g_goto C dX11_isPart_10 (tgt := 14) (by decide) ?_
      exact ret _ _ _ _ dX11_isPart_14 rfl (⟨Or.inl ⟨rfl, (by first | (rw [c1]; exact ⟨0, rfl, by omega, by omega⟩) | (rw [c6]; exact ⟨1, rfl, by omega, by omega⟩))⟩, rfl⟩)
def cntR (rd : Nat → Int32) : Nat → Nat
  | 0 => 0
  | k + 1 => cntR rd k + (if rd (k + 1) = -1 then 0 else 1)
def oddF (stp : Nat → Nat → Nat → Int64) (wn k w : Nat) : Int64 := unD stp wn k w * bhD stp (6 - k) w
def allF (stp : Nat → Nat → Nat → Int64) (wn : Nat) : Int64 := smP (fun w => unD stp wn 6 w) 3
def srF (o : Nat → Int64) : Int32 := if o 0 ≤ 0 then (if o 1 ≤ 0 then (if o 2 ≤ 0 then -1 else 2) else (if o 2 ≤ 0 then 1 else -1)) else (if o 1 ≤ 0 then (if o 2 ≤ 0 then 0 else -1) else -1)
def pk3 (f : Nat → Int64) : Nat → Nat × Int64
  | 0 => (0, 0)
  | w + 1 => if f w ≤ (pk3 f w).2 then pk3 f w else (w, f w)
def grS (stp : Nat → Nat → Nat → Int64) (wn : Nat) : Nat → Nat × Nat
  | 0 => (0, wn)
  | k + 1 => ((grS stp wn k).1 * 3 + (pk3 (fun w => stp (k + 1) (grS stp wn k).2 w * mxD stp (6 - (k + 1)) w) 3).1, (pk3 (fun w => stp (k + 1) (grS stp wn k).2 w * mxD stp (6 - (k + 1)) w) 3).1)
theorem pk3_pos {f : Nat → Int64} {w : Nat} (h : f w ≤ (pk3 f w).2) : pk3 f (w + 1) = pk3 f w := if_pos h
theorem pk3_neg {f : Nat → Int64} {w : Nat} (h : ¬ f w ≤ (pk3 f w).2) : pk3 f (w + 1) = (w, f w) := if_neg h
theorem pk3_lt (f : Nat → Int64) : ∀ w, (pk3 f (w + 1)).1 ≤ w
  | 0 => by by_cases h : f 0 ≤ 0 <;> simp [pk3, h]
  | w + 1 => by
    have := pk3_lt f w
    rw [pk3]
    by_cases h : f (w + 1) ≤ (pk3 f (w + 1)).2
    · rw [if_pos h]; omega
    · rw [if_neg h]; exact Nat.le_refl _
theorem grS_lt (stp : Nat → Nat → Nat → Int64) {wn : Nat} (hw : wn < 3) : ∀ k, (grS stp wn k).2 < 3 ∧ (grS stp wn k).1 < 3 ^ k
  | 0 => ⟨hw, Nat.lt_succ_self 0⟩
  | k + 1 => by
    have h1 := grS_lt stp hw k
    have h2 : (pk3 (fun w => stp (k + 1) (grS stp wn k).2 w * mxD stp (6 - (k + 1)) w) 3).1 ≤ 2 := pk3_lt _ 2
    refine ⟨?_, ?_⟩
    · simp only [grS]; omega
    · simp only [grS, Nat.pow_succ]; omega
def mbF (od : Nat → Int64) (sl r c t : Int32) : Int64 := mn64 (c.toInt64 * smP (fun w => od w * (F_fit sl r w).toInt64) 3) (t.toInt64 * (od 1 * (F_fit sl r 1).toInt64))
theorem lt5 {P : Nat → Prop} (h0 : P 0) (h1 : P 1) (h2 : P 2) (h3 : P 3) (h4 : P 4) : ∀ j, j < 5 → P j := fun j hj => by
  rcases (show j = 0 ∨ j = 1 ∨ j = 2 ∨ j = 3 ∨ j = 4 by omega) with rfl | rfl | rfl | rfl | rfl <;> assumption
theorem upd_back {f : Nat → Int32} {e : Nat} {x : Int32} : upd (upd f e x) e (f e) = f := by
  funext j
  by_cases h : j = e
  · subst h; simp [upd]
  · simp [upd, h]
set_option maxHeartbeats 4000000 in
set_option maxRecDepth 100000 in
theorem k_X7_readingsTold (l : Launch) (D : va_G) (b z : Nat) {h : qH} {a s : Nat} {rd : Nat → Int32} {dn w0 : Int32} (hOl : OlAt D h a s rd dn w0) : qMi l D b yX7_readingsTold cX7_readingsTold 3 .int 0 0 [.ref (a)] h z (fun r h' => r = nI (cntR rd 4) ∧ h' = h) := by
  refine q_i (L := [(0, .ref (a))]) (own := RX7) (by decide) rfl (Nat.le_of_ble_eq_true rfl) rfl ?_
  intro X C ret
  refine g_iconst C (v := 0) dX7_readingsTold_0 (by decide) rfl ?_
  refine g_istore_n C ([(1, .int (0)), (0, .ref (a))]) dX7_readingsTold_1 rfl (by decide) rfl rfl ?_
  refine g_iconst C (v := 1) dX7_readingsTold_2 (by decide) rfl ?_
  refine g_istore_n C ([(2, .int (1)), (1, .int (0)), (0, .ref (a))]) dX7_readingsTold_3 rfl (by decide) rfl rfl ?_
  have loop4 : ∀ (N : Nat) (k : Nat) (t : Int32), 5 - k < N → (1 ≤ k ∧ k ≤ 5) → (t = nI (cntR rd (k - 1))) → qG X 0 0 z h 4 [(2, .int (nI (k))), (1, .int (t)), (0, .ref (a))] [] := by
    intro N
    induction N with
    | zero => intro k t hm; exact absurd hm (Nat.not_lt_zero _)
    | succ N ih4 =>
      intro k t hm hk ht
      refine g_iload_n C 0 dX7_readingsTold_4 rfl rfl rfl ?_
      refine g_iconst C (v := 4) dX7_readingsTold_5 (by decide) rfl ?_
      refine g_icmp_gt C dX7_readingsTold_6 (tgt := 33) (by decide) (pc' := 9) rfl ?_ ?_
      · intro c6
        replace c6 := (nI_ltI (a := 4) (b := k) (by omega) (by omega)).mp c6
        refine g_iload_n C 1 dX7_readingsTold_33 rfl rfl rfl ?_
        exact ret _ _ _ _ dX7_readingsTold_34 rfl (⟨by rw [ht, (by omega : k = 5)], rfl⟩)
      · intro c6
        replace c6 := (not_congr (nI_ltI (a := 4) (b := k) (by omega) (by omega))).mp c6
        refine g_iload_n C 1 dX7_readingsTold_9 rfl rfl rfl ?_
        refine g_aload_n C 2 dX7_readingsTold_10 rfl rfl rfl ?_
        refine gf_7_9 C (hOl.1) (v := .ref (a + 1)) rfl dX7_readingsTold_11 rfl ?_
        refine g_iload_n C 0 dX7_readingsTold_14 rfl rfl rfl ?_
        refine g_iald' C (hOl.2) (j := k) rfl (by omega) (by decide) dX7_readingsTold_15 rfl ?_
        refine g_iconst C (v := -1) dX7_readingsTold_16 (by decide) rfl ?_
        refine g_icmp_ne C dX7_readingsTold_17 (tgt := 24) (by decide) (pc' := 20) rfl ?_ ?_
        · intro c17
          refine g_iconst C (v := 1) dX7_readingsTold_24 (by decide) rfl ?_
          refine g_iadd C dX7_readingsTold_25 rfl ?_
          refine g_istore_n C ([(1, .int ((t) + (1))), (2, .int (nI (k))), (0, .ref (a))]) dX7_readingsTold_26 rfl (by decide) rfl rfl ?_
          refine g_iinc C (v := nI (k + 1)) 1 ([(2, .int (nI (k + 1))), (1, .int ((t) + (1))), (0, .ref (a))]) dX7_readingsTold_27 rfl (nI_1 _) (by decide) rfl rfl ?_
          refine g_goto C dX7_readingsTold_30 (tgt := 4) (by decide) ?_
          exact ih4 (k + 1) ((t) + (1)) (by omega) (by omega) (by obtain ⟨k2, rfl⟩ : ∃ k2, k = k2 + 1 := ⟨k - 1, by omega⟩; rw [ht]; simp only [Nat.add_sub_cancel, cntR, if_neg c17]; exact nI_add _ _)
        · intro c17
          refine g_iconst C (v := 0) dX7_readingsTold_20 (by decide) rfl ?_
          refine g_goto C dX7_readingsTold_21 (tgt := 25) (by decide) ?_
          refine g_iadd C dX7_readingsTold_25 rfl ?_
          refine g_istore_n C ([(1, .int ((t) + (0))), (2, .int (nI (k))), (0, .ref (a))]) dX7_readingsTold_26 rfl (by decide) rfl rfl ?_
          refine g_iinc C (v := nI (k + 1)) 1 ([(2, .int (nI (k + 1))), (1, .int ((t) + (0))), (0, .ref (a))]) dX7_readingsTold_27 rfl (nI_1 _) (by decide) rfl rfl ?_
          refine g_goto C dX7_readingsTold_30 (tgt := 4) (by decide) ?_
          exact ih4 (k + 1) ((t) + (0)) (by omega) (by omega) (by obtain ⟨k2, rfl⟩ : ∃ k2, k = k2 + 1 := ⟨k - 1, by omega⟩; rw [ht]; simp only [Nat.add_sub_cancel, cntR, if_pos c17]; exact nI_add _ _)
  exact loop4 _ (1) (0) (Nat.lt_succ_self _) (by omega) (rfl)
set_option maxHeartbeats 4000000 in
set_option maxRecDepth 100000 in
theorem k_X7_oddsOf (l : Launch) (D : va_G) (b z : Nat) {h : qH} {a s : Nat} {tn : Nat → Int32} {sl : Int32} {rd : Nat → Int32} {dn : Int32} {wn : Nat} (hwn : wn < 3) (hOK : OlOK D h a s tn sl rd dn wn) {k w : Nat} (hk : 1 ≤ k ∧ k ≤ 6) (hw : w < 3) : qMl l D b yX7_oddsOf cX7_oddsOf 3 1 20 [.ref (a), .int (nI (k)), .int (nI (w))] h z (fun r h' => r = oddF (F_step tn sl rd) wn k w ∧ h' = h) := by
  refine q_l (L := [(0, .ref (a)), (1, .int (nI (k))), (2, .int (nI (w)))]) (own := RX7) (by decide) rfl (Nat.le_of_ble_eq_true rfl) rfl ?_
  intro X C ret
  obtain ⟨hOl, U, B, M, P, ⟨hU, hB, hM, hP⟩, hR, hRU⟩ := id hOK
  refine g_iload_n C 1 dX7_oddsOf_0 rfl rfl rfl ?_
  refine g_callSNi C (As := [.int (nI (k))]) (kp_X11_isAhead l D b z h (nI (k))) hw_7_54 (by decide) rfl rfl (Nat.le_of_ble_eq_true rfl) ⟨Nat.zero_le _, Nat.zero_le _⟩ dX7_oddsOf_1 (pc' := 4) rfl ?_
  rintro r1 h9 ⟨⟨er, hp1⟩ | ⟨er, hp1⟩, e9⟩
  · subst h9; subst er
    refine g_if_eq C dX7_oddsOf_4 (tgt := 14) (by decide) (pc' := 7) rfl (fun c4 => absurd c4 (by decide)) (fun _ => ?_)
    refine g_iload_n C 2 dX7_oddsOf_7 rfl rfl rfl ?_
    refine g_callSNi C (As := [.int (nI (w))]) (kp_X11_isWeather l D b z h (nI (w))) hw_7_58 (by decide) rfl rfl (Nat.le_of_ble_eq_true rfl) ⟨Nat.zero_le _, Nat.zero_le _⟩ dX7_oddsOf_8 (pc' := 11) rfl ?_
    rintro r2 h9 ⟨⟨er, hp8⟩ | ⟨er, hp8⟩, e9⟩
    · subst h9; subst er
      refine g_if_ne C dX7_oddsOf_11 (tgt := 16) (by decide) (pc' := 14) rfl (fun _ => ?_) (fun c11 => absurd c11 (by decide))
      refine g_aload_n C 0 dX7_oddsOf_16 rfl rfl rfl ?_
      refine gf_7_17 C (hOl.1) (v := .ref (a + 2)) rfl dX7_oddsOf_17 rfl ?_
      refine g_iload_n C 1 dX7_oddsOf_20 rfl rfl rfl ?_
      refine g_aaldJJ C (hU.1) (j := k) rfl (by omega) (by decide) (gridF_at (by omega)) dX7_oddsOf_21 rfl ?_
      refine g_iload_n C 2 dX7_oddsOf_22 rfl rfl rfl ?_
      refine g_lald' C (hU.2 (k) (by omega)) (j := w) rfl (by omega) (by decide) dX7_oddsOf_23 rfl ?_
      refine g_aload_n C 0 dX7_oddsOf_24 rfl rfl rfl ?_
      refine gf_7_20 C (hOl.1) (v := .ref (a + 10)) rfl dX7_oddsOf_25 rfl ?_
      refine g_iload_n C 1 dX7_oddsOf_28 rfl rfl rfl ?_
      refine g_aaldJJ C (hB.1) (j := k) rfl (by omega) (by decide) (gridF_at (by omega)) dX7_oddsOf_29 rfl ?_
      refine g_iload_n C 2 dX7_oddsOf_30 rfl rfl rfl ?_
      refine g_lald' C (hB.2 (k) (by omega)) (j := w) rfl (by omega) (by decide) dX7_oddsOf_31 rfl ?_
      refine g_lmul C dX7_oddsOf_32 rfl ?_
      exact ret _ _ _ _ dX7_oddsOf_33 (⟨by rw [hRU _ hk.2 _ hw, (hR _ hk.2 _ hw).1]; rfl, rfl⟩)
    · subst h9; subst er
      exact absurd (inP_nI (Nat.zero_le _) (by omega)) hp8
  · subst h9; subst er
    exact absurd (inP_nI hk.1 hk.2) hp1
set_option maxHeartbeats 4000000 in
set_option maxRecDepth 100000 in
theorem k_X7_allOdds (l : Launch) (D : va_G) (b z : Nat) {h : qH} {a s : Nat} {tn : Nat → Int32} {sl : Int32} {rd : Nat → Int32} {dn : Int32} {wn : Nat} (hwn : wn < 3) (hOK : OlOK D h a s tn sl rd dn wn) : qMl l D b yX7_allOdds cX7_allOdds 4 0 0 [.ref (a)] h z (fun r h' => r = allF (F_step tn sl rd) wn ∧ h' = h) := by
  refine q_l (L := [(0, .ref (a))]) (own := RX7) (by decide) rfl (Nat.le_of_ble_eq_true rfl) rfl ?_
  intro X C ret
  obtain ⟨hOl, U, B, M, P, ⟨hU, hB, hM, hP⟩, hR, hRU⟩ := id hOK
  refine g_lconst C (v := 0) dX7_allOdds_0 (by decide) rfl ?_
  refine g_lstore_n C ([(1, .long (0)), (0, .ref (a))]) dX7_allOdds_1 rfl (by decide) rfl rfl ?_
  refine g_iconst C (v := 0) dX7_allOdds_2 (by decide) rfl ?_
  refine g_istore_n C ([(3, .int (0)), (1, .long (0)), (0, .ref (a))]) dX7_allOdds_3 rfl (by decide) rfl rfl ?_
  refine g_iload_n C 0 dX7_allOdds_4 rfl rfl rfl ?_
  refine g_iconst C (v := 3) dX7_allOdds_5 (by decide) rfl ?_
  refine g_icmp_ge C dX7_allOdds_6 (tgt := 27) (by decide) (pc' := 9) rfl (fun c6 => absurd c6 (by decide)) (fun _ => ?_)
  refine g_lload_n C 1 dX7_allOdds_9 rfl rfl rfl ?_
  refine g_aload_n C 2 dX7_allOdds_10 rfl rfl rfl ?_
  refine gf_7_17 C (hOl.1) (v := .ref (a + 2)) rfl dX7_allOdds_11 rfl ?_
  refine g_bipush C (v := 6) dX7_allOdds_14 (by decide) rfl ?_
  refine g_aaldJJ C (hU.1) (j := 6) rfl (by omega) (by decide) (gridF_at (by omega)) dX7_allOdds_16 rfl ?_
  refine g_iload_n C 0 dX7_allOdds_17 rfl rfl rfl ?_
  refine g_lald' C (hU.2 (6) (by omega)) (j := 0) rfl (by omega) (by decide) dX7_allOdds_18 rfl ?_
  refine g_ladd C dX7_allOdds_19 rfl ?_
  refine g_lstore_n C ([(1, .long ((0) + (U (6) (0)))), (3, .int (0)), (0, .ref (a))]) dX7_allOdds_20 rfl (by decide) rfl rfl ?_
  refine g_iinc C (v := 1) 1 ([(3, .int (1)), (1, .long ((0) + (U (6) (0)))), (0, .ref (a))]) dX7_allOdds_21 rfl (by decide) (by decide) rfl rfl ?_
  refine g_goto C dX7_allOdds_24 (tgt := 4) (by decide) ?_
  refine g_iload_n C 0 dX7_allOdds_4 rfl rfl rfl ?_
  refine g_iconst C (v := 3) dX7_allOdds_5 (by decide) rfl ?_
  refine g_icmp_ge C dX7_allOdds_6 (tgt := 27) (by decide) (pc' := 9) rfl (fun c6 => absurd c6 (by decide)) (fun _ => ?_)
  refine g_lload_n C 1 dX7_allOdds_9 rfl rfl rfl ?_
  refine g_aload_n C 2 dX7_allOdds_10 rfl rfl rfl ?_
  refine gf_7_17 C (hOl.1) (v := .ref (a + 2)) rfl dX7_allOdds_11 rfl ?_
  refine g_bipush C (v := 6) dX7_allOdds_14 (by decide) rfl ?_
  refine g_aaldJJ C (hU.1) (j := 6) rfl (by omega) (by decide) (gridF_at (by omega)) dX7_allOdds_16 rfl ?_
  refine g_iload_n C 0 dX7_allOdds_17 rfl rfl rfl ?_
  refine g_lald' C (hU.2 (6) (by omega)) (j := 1) rfl (by omega) (by decide) dX7_allOdds_18 rfl ?_
  refine g_ladd C dX7_allOdds_19 rfl ?_
  refine g_lstore_n C ([(1, .long (((0) + (U (6) (0))) + (U (6) (1)))), (3, .int (1)), (0, .ref (a))]) dX7_allOdds_20 rfl (by decide) rfl rfl ?_
  refine g_iinc C (v := 2) 1 ([(3, .int (2)), (1, .long (((0) + (U (6) (0))) + (U (6) (1)))), (0, .ref (a))]) dX7_allOdds_21 rfl (by decide) (by decide) rfl rfl ?_
  refine g_goto C dX7_allOdds_24 (tgt := 4) (by decide) ?_
  refine g_iload_n C 0 dX7_allOdds_4 rfl rfl rfl ?_
  refine g_iconst C (v := 3) dX7_allOdds_5 (by decide) rfl ?_
  refine g_icmp_ge C dX7_allOdds_6 (tgt := 27) (by decide) (pc' := 9) rfl (fun c6 => absurd c6 (by decide)) (fun _ => ?_)
  refine g_lload_n C 1 dX7_allOdds_9 rfl rfl rfl ?_
  refine g_aload_n C 2 dX7_allOdds_10 rfl rfl rfl ?_
  refine gf_7_17 C (hOl.1) (v := .ref (a + 2)) rfl dX7_allOdds_11 rfl ?_
  refine g_bipush C (v := 6) dX7_allOdds_14 (by decide) rfl ?_
  refine g_aaldJJ C (hU.1) (j := 6) rfl (by omega) (by decide) (gridF_at (by omega)) dX7_allOdds_16 rfl ?_
  refine g_iload_n C 0 dX7_allOdds_17 rfl rfl rfl ?_
  refine g_lald' C (hU.2 (6) (by omega)) (j := 2) rfl (by omega) (by decide) dX7_allOdds_18 rfl ?_
  refine g_ladd C dX7_allOdds_19 rfl ?_
  refine g_lstore_n C ([(1, .long ((((0) + (U (6) (0))) + (U (6) (1))) + (U (6) (2)))), (3, .int (2)), (0, .ref (a))]) dX7_allOdds_20 rfl (by decide) rfl rfl ?_
  refine g_iinc C (v := 3) 1 ([(3, .int (3)), (1, .long ((((0) + (U (6) (0))) + (U (6) (1))) + (U (6) (2)))), (0, .ref (a))]) dX7_allOdds_21 rfl (by decide) (by decide) rfl rfl ?_
  refine g_goto C dX7_allOdds_24 (tgt := 4) (by decide) ?_
  refine g_iload_n C 0 dX7_allOdds_4 rfl rfl rfl ?_
  refine g_iconst C (v := 3) dX7_allOdds_5 (by decide) rfl ?_
  refine g_icmp_ge C dX7_allOdds_6 (tgt := 27) (by decide) (pc' := 9) rfl (fun _ => ?_) (fun c6 => absurd (by decide) c6)
  refine g_lload_n C 1 dX7_allOdds_27 rfl rfl rfl ?_
  exact ret _ _ _ _ dX7_allOdds_28 (⟨by rw [hRU 6 (by omega) 0 (by omega), hRU 6 (by omega) 1 (by omega), hRU 6 (by omega) 2 (by omega)]; rfl, rfl⟩)
set_option maxHeartbeats 4000000 in
set_option maxRecDepth 100000 in
theorem k_X7_possibleDays (l : Launch) (D : va_G) (b z : Nat) {h : qH} {a s : Nat} {tn : Nat → Int32} {sl : Int32} {rd : Nat → Int32} {dn : Int32} {wn : Nat} (hwn : wn < 3) (hOK : OlOK D h a s tn sl rd dn wn) : qMi l D b yX7_possibleDays cX7_possibleDays 1 .int 1 20 [.ref (a)] h z (fun r h' => r = wyD (F_step tn sl rd) 6 wn ∧ h' = h) := by
  refine q_i (L := [(0, .ref (a))]) (own := RX7) (by decide) rfl (Nat.le_of_ble_eq_true rfl) rfl ?_
  intro X C ret
  obtain ⟨hOl, U, B, M, P, ⟨hU, hB, hM, hP⟩, hR, hRU⟩ := id hOK
  refine g_aload_n C 0 dX7_possibleDays_0 rfl rfl rfl ?_
  refine gf_7_39 C (hOl.1) (v := .int (nI (wn))) rfl dX7_possibleDays_1 rfl ?_
  refine g_callSNi C (As := [.int (nI (wn))]) (kp_X11_isWeather l D b z h (nI (wn))) hw_7_58 (by decide) rfl rfl (Nat.le_of_ble_eq_true rfl) ⟨Nat.zero_le _, Nat.zero_le _⟩ dX7_possibleDays_4 (pc' := 7) rfl ?_
  rintro r1 h9 ⟨⟨er, hp4⟩ | ⟨er, hp4⟩, e9⟩
  · subst h9; subst er
    refine g_if_eq C dX7_possibleDays_7 (tgt := 24) (by decide) (pc' := 10) rfl (fun c7 => absurd c7 (by decide)) (fun _ => ?_)
    refine g_aload_n C 0 dX7_possibleDays_10 rfl rfl rfl ?_
    refine gf_7_28 C (hOl.1) (v := .ref (a + 26)) rfl dX7_possibleDays_11 rfl ?_
    refine g_iconst C (v := 0) dX7_possibleDays_14 (by decide) rfl ?_
    refine g_aaldII C (hP.1) (j := 0) rfl (by omega) (by decide) (gridF_at (by omega)) dX7_possibleDays_15 rfl ?_
    refine g_aload_n C 0 dX7_possibleDays_16 rfl rfl rfl ?_
    refine gf_7_39 C (hOl.1) (v := .int (nI (wn))) rfl dX7_possibleDays_17 rfl ?_
    refine g_iald' C (hP.2 (0) (by omega)) (j := wn) rfl (by omega) (by decide) dX7_possibleDays_20 rfl ?_
    refine g_goto C dX7_possibleDays_21 (tgt := 25) (by decide) ?_
    exact ret _ _ _ _ dX7_possibleDays_25 rfl (⟨(hR 0 (by omega) wn hwn).2.2, rfl⟩)
  · subst h9; subst er
    exact absurd (inP_nI (Nat.zero_le _) (by omega)) hp4
set_option maxHeartbeats 4000000 in
set_option maxRecDepth 100000 in
theorem k_X7_sureWeather (l : Launch) (D : va_G) (b z : Nat) {h : qH} {a s : Nat} {tn : Nat → Int32} {sl : Int32} {rd : Nat → Int32} {dn : Int32} {wn : Nat} (hwn : wn < 3) (hOK : OlOK D h a s tn sl rd dn wn) {k : Nat} (hk : 1 ≤ k ∧ k ≤ 6) : qMi l D b yX7_sureWeather cX7_sureWeather 4 .int 2 42 [.ref (a), .int (nI (k))] h z (fun r h' => r = srF (fun w => oddF (F_step tn sl rd) wn k w) ∧ h' = h) := by
  refine q_i (L := [(0, .ref (a)), (1, .int (nI (k)))]) (own := RX7) (by decide) rfl (Nat.le_of_ble_eq_true rfl) rfl ?_
  intro X C ret
  obtain ⟨hOl, U, B, M, P, ⟨hU, hB, hM, hP⟩, hR, hRU⟩ := id hOK
  refine g_iconst C (v := -1) dX7_sureWeather_0 (by decide) rfl ?_
  refine g_istore_n C ([(2, .int ((-1))), (0, .ref (a)), (1, .int (nI (k)))]) dX7_sureWeather_1 rfl (by decide) rfl rfl ?_
  refine g_iconst C (v := 0) dX7_sureWeather_2 (by decide) rfl ?_
  refine g_istore_n C ([(3, .int (0)), (2, .int ((-1))), (0, .ref (a)), (1, .int (nI (k)))]) dX7_sureWeather_3 rfl (by decide) rfl rfl ?_
  refine g_iload_n C 0 dX7_sureWeather_4 rfl rfl rfl ?_
  refine g_iconst C (v := 3) dX7_sureWeather_5 (by decide) rfl ?_
  refine g_icmp_ge C dX7_sureWeather_6 (tgt := 35) (by decide) (pc' := 9) rfl (fun c6 => absurd c6 (by decide)) (fun _ => ?_)
  refine g_aload_n C 2 dX7_sureWeather_9 rfl rfl rfl ?_
  refine g_iload_n C 3 dX7_sureWeather_10 rfl rfl rfl ?_
  refine g_iload_n C 0 dX7_sureWeather_11 rfl rfl rfl ?_
  refine g_callVl C (As := [.int (nI (k)), .int (0)]) (q := (RX7, TX7, 8)) (k_X7_oddsOf l D b z hwn hOK (k := k) (w := 0) (by omega) (by omega)) hw_7_61 (hOl.1) rfl (by decide) rfl rfl (Nat.le_of_ble_eq_true rfl) ⟨Nat.zero_le _, Nat.zero_le _⟩ dX7_sureWeather_12 (pc' := 15) rfl ?_
  rintro r1 h9 ⟨er, e9⟩
  subst h9; subst er
  refine g_lconst C (v := 0) dX7_sureWeather_15 (by decide) rfl ?_
  refine g_lcmp C dX7_sureWeather_16 rfl ?_
  refine g_if_le C dX7_sureWeather_17 (tgt := 29) (by decide) (pc' := 20) rfl ?_ ?_
  · intro c17
    replace c17 := (lg_cmp_le _ _).mp c17
    refine g_iinc C (v := 1) 0 ([(3, .int (1)), (2, .int ((-1))), (0, .ref (a)), (1, .int (nI (k)))]) dX7_sureWeather_29 rfl (by decide) (by decide) rfl rfl ?_
    refine g_goto C dX7_sureWeather_32 (tgt := 4) (by decide) ?_
    refine g_iload_n C 0 dX7_sureWeather_4 rfl rfl rfl ?_
    refine g_iconst C (v := 3) dX7_sureWeather_5 (by decide) rfl ?_
    refine g_icmp_ge C dX7_sureWeather_6 (tgt := 35) (by decide) (pc' := 9) rfl (fun c6 => absurd c6 (by decide)) (fun _ => ?_)
    refine g_aload_n C 2 dX7_sureWeather_9 rfl rfl rfl ?_
    refine g_iload_n C 3 dX7_sureWeather_10 rfl rfl rfl ?_
    refine g_iload_n C 0 dX7_sureWeather_11 rfl rfl rfl ?_
    refine g_callVl C (As := [.int (nI (k)), .int (1)]) (q := (RX7, TX7, 8)) (k_X7_oddsOf l D b z hwn hOK (k := k) (w := 1) (by omega) (by omega)) hw_7_61 (hOl.1) rfl (by decide) rfl rfl (Nat.le_of_ble_eq_true rfl) ⟨Nat.zero_le _, Nat.zero_le _⟩ dX7_sureWeather_12 (pc' := 15) rfl ?_
    rintro r2 h9 ⟨er, e9⟩
    subst h9; subst er
    refine g_lconst C (v := 0) dX7_sureWeather_15 (by decide) rfl ?_
    refine g_lcmp C dX7_sureWeather_16 rfl ?_
    refine g_if_le C dX7_sureWeather_17 (tgt := 29) (by decide) (pc' := 20) rfl ?_ ?_
    · intro c17a
      replace c17a := (lg_cmp_le _ _).mp c17a
      refine g_iinc C (v := 2) 0 ([(3, .int (2)), (2, .int ((-1))), (0, .ref (a)), (1, .int (nI (k)))]) dX7_sureWeather_29 rfl (by decide) (by decide) rfl rfl ?_
      refine g_goto C dX7_sureWeather_32 (tgt := 4) (by decide) ?_
      refine g_iload_n C 0 dX7_sureWeather_4 rfl rfl rfl ?_
      refine g_iconst C (v := 3) dX7_sureWeather_5 (by decide) rfl ?_
      refine g_icmp_ge C dX7_sureWeather_6 (tgt := 35) (by decide) (pc' := 9) rfl (fun c6 => absurd c6 (by decide)) (fun _ => ?_)
      refine g_aload_n C 2 dX7_sureWeather_9 rfl rfl rfl ?_
      refine g_iload_n C 3 dX7_sureWeather_10 rfl rfl rfl ?_
      refine g_iload_n C 0 dX7_sureWeather_11 rfl rfl rfl ?_
      refine g_callVl C (As := [.int (nI (k)), .int (2)]) (q := (RX7, TX7, 8)) (k_X7_oddsOf l D b z hwn hOK (k := k) (w := 2) (by omega) (by omega)) hw_7_61 (hOl.1) rfl (by decide) rfl rfl (Nat.le_of_ble_eq_true rfl) ⟨Nat.zero_le _, Nat.zero_le _⟩ dX7_sureWeather_12 (pc' := 15) rfl ?_
      rintro r3 h9 ⟨er, e9⟩
      subst h9; subst er
      refine g_lconst C (v := 0) dX7_sureWeather_15 (by decide) rfl ?_
      refine g_lcmp C dX7_sureWeather_16 rfl ?_
      refine g_if_le C dX7_sureWeather_17 (tgt := 29) (by decide) (pc' := 20) rfl ?_ ?_
      · intro c17b
        replace c17b := (lg_cmp_le _ _).mp c17b
        refine g_iinc C (v := 3) 0 ([(3, .int (3)), (2, .int ((-1))), (0, .ref (a)), (1, .int (nI (k)))]) dX7_sureWeather_29 rfl (by decide) (by decide) rfl rfl ?_
        refine g_goto C dX7_sureWeather_32 (tgt := 4) (by decide) ?_
        refine g_iload_n C 0 dX7_sureWeather_4 rfl rfl rfl ?_
        refine g_iconst C (v := 3) dX7_sureWeather_5 (by decide) rfl ?_
        refine g_icmp_ge C dX7_sureWeather_6 (tgt := 35) (by decide) (pc' := 9) rfl (fun _ => ?_) (fun c6 => absurd (by decide) c6)
        refine g_iload_n C 1 dX7_sureWeather_35 rfl rfl rfl ?_
        exact ret _ _ _ _ dX7_sureWeather_36 rfl (⟨by simp only [srF, if_pos c17, if_pos c17a, if_pos c17b], rfl⟩)
      · intro c17b
        replace c17b := (not_congr (lg_cmp_le _ _)).mp c17b
        refine g_iload_n C 1 dX7_sureWeather_20 rfl rfl rfl ?_
        refine g_iconst C (v := -1) dX7_sureWeather_21 (by decide) rfl ?_
        refine g_icmp_eq C dX7_sureWeather_22 (tgt := 27) (by decide) (pc' := 25) rfl (fun _ => ?_) (fun c22 => absurd (by decide) c22)
        refine g_iload_n C 0 dX7_sureWeather_27 rfl rfl rfl ?_
        refine g_istore_n C ([(2, .int (2)), (3, .int (2)), (0, .ref (a)), (1, .int (nI (k)))]) dX7_sureWeather_28 rfl (by decide) rfl rfl ?_
        refine g_iinc C (v := 3) 1 ([(3, .int (3)), (2, .int (2)), (0, .ref (a)), (1, .int (nI (k)))]) dX7_sureWeather_29 rfl (by decide) (by decide) rfl rfl ?_
        refine g_goto C dX7_sureWeather_32 (tgt := 4) (by decide) ?_
        refine g_iload_n C 0 dX7_sureWeather_4 rfl rfl rfl ?_
        refine g_iconst C (v := 3) dX7_sureWeather_5 (by decide) rfl ?_
        refine g_icmp_ge C dX7_sureWeather_6 (tgt := 35) (by decide) (pc' := 9) rfl (fun _ => ?_) (fun c6 => absurd (by decide) c6)
        refine g_iload_n C 1 dX7_sureWeather_35 rfl rfl rfl ?_
        exact ret _ _ _ _ dX7_sureWeather_36 rfl (⟨by simp only [srF, if_pos c17, if_pos c17a, if_neg c17b], rfl⟩)
    · intro c17a
      replace c17a := (not_congr (lg_cmp_le _ _)).mp c17a
      refine g_iload_n C 1 dX7_sureWeather_20 rfl rfl rfl ?_
      refine g_iconst C (v := -1) dX7_sureWeather_21 (by decide) rfl ?_
      refine g_icmp_eq C dX7_sureWeather_22 (tgt := 27) (by decide) (pc' := 25) rfl (fun _ => ?_) (fun c22 => absurd (by decide) c22)
      refine g_iload_n C 0 dX7_sureWeather_27 rfl rfl rfl ?_
      refine g_istore_n C ([(2, .int (1)), (3, .int (1)), (0, .ref (a)), (1, .int (nI (k)))]) dX7_sureWeather_28 rfl (by decide) rfl rfl ?_
      refine g_iinc C (v := 2) 1 ([(3, .int (2)), (2, .int (1)), (0, .ref (a)), (1, .int (nI (k)))]) dX7_sureWeather_29 rfl (by decide) (by decide) rfl rfl ?_
      refine g_goto C dX7_sureWeather_32 (tgt := 4) (by decide) ?_
      refine g_iload_n C 0 dX7_sureWeather_4 rfl rfl rfl ?_
      refine g_iconst C (v := 3) dX7_sureWeather_5 (by decide) rfl ?_
      refine g_icmp_ge C dX7_sureWeather_6 (tgt := 35) (by decide) (pc' := 9) rfl (fun c6 => absurd c6 (by decide)) (fun _ => ?_)
      refine g_aload_n C 2 dX7_sureWeather_9 rfl rfl rfl ?_
      refine g_iload_n C 3 dX7_sureWeather_10 rfl rfl rfl ?_
      refine g_iload_n C 0 dX7_sureWeather_11 rfl rfl rfl ?_
      refine g_callVl C (As := [.int (nI (k)), .int (2)]) (q := (RX7, TX7, 8)) (k_X7_oddsOf l D b z hwn hOK (k := k) (w := 2) (by omega) (by omega)) hw_7_61 (hOl.1) rfl (by decide) rfl rfl (Nat.le_of_ble_eq_true rfl) ⟨Nat.zero_le _, Nat.zero_le _⟩ dX7_sureWeather_12 (pc' := 15) rfl ?_
      rintro r4 h9 ⟨er, e9⟩
      subst h9; subst er
      refine g_lconst C (v := 0) dX7_sureWeather_15 (by decide) rfl ?_
      refine g_lcmp C dX7_sureWeather_16 rfl ?_
      refine g_if_le C dX7_sureWeather_17 (tgt := 29) (by decide) (pc' := 20) rfl ?_ ?_
      · intro c17b
        replace c17b := (lg_cmp_le _ _).mp c17b
        refine g_iinc C (v := 3) 0 ([(3, .int (3)), (2, .int (1)), (0, .ref (a)), (1, .int (nI (k)))]) dX7_sureWeather_29 rfl (by decide) (by decide) rfl rfl ?_
        refine g_goto C dX7_sureWeather_32 (tgt := 4) (by decide) ?_
        refine g_iload_n C 0 dX7_sureWeather_4 rfl rfl rfl ?_
        refine g_iconst C (v := 3) dX7_sureWeather_5 (by decide) rfl ?_
        refine g_icmp_ge C dX7_sureWeather_6 (tgt := 35) (by decide) (pc' := 9) rfl (fun _ => ?_) (fun c6 => absurd (by decide) c6)
        refine g_iload_n C 1 dX7_sureWeather_35 rfl rfl rfl ?_
        exact ret _ _ _ _ dX7_sureWeather_36 rfl (⟨by simp only [srF, if_pos c17, if_neg c17a, if_pos c17b], rfl⟩)
      · intro c17b
        replace c17b := (not_congr (lg_cmp_le _ _)).mp c17b
        refine g_iload_n C 1 dX7_sureWeather_20 rfl rfl rfl ?_
        refine g_iconst C (v := -1) dX7_sureWeather_21 (by decide) rfl ?_
        refine g_icmp_eq C dX7_sureWeather_22 (tgt := 27) (by decide) (pc' := 25) rfl (fun c22 => absurd c22 (by decide)) (fun _ => ?_)
        refine g_iconst C (v := -1) dX7_sureWeather_25 (by decide) rfl ?_
        exact ret _ _ _ _ dX7_sureWeather_26 rfl (⟨by simp only [srF, if_pos c17, if_neg c17a, if_neg c17b], rfl⟩)
  · intro c17
    replace c17 := (not_congr (lg_cmp_le _ _)).mp c17
    refine g_iload_n C 1 dX7_sureWeather_20 rfl rfl rfl ?_
    refine g_iconst C (v := -1) dX7_sureWeather_21 (by decide) rfl ?_
    refine g_icmp_eq C dX7_sureWeather_22 (tgt := 27) (by decide) (pc' := 25) rfl (fun _ => ?_) (fun c22 => absurd (by decide) c22)
    refine g_iload_n C 0 dX7_sureWeather_27 rfl rfl rfl ?_
    refine g_istore_n C ([(2, .int (0)), (3, .int (0)), (0, .ref (a)), (1, .int (nI (k)))]) dX7_sureWeather_28 rfl (by decide) rfl rfl ?_
    refine g_iinc C (v := 1) 1 ([(3, .int (1)), (2, .int (0)), (0, .ref (a)), (1, .int (nI (k)))]) dX7_sureWeather_29 rfl (by decide) (by decide) rfl rfl ?_
    refine g_goto C dX7_sureWeather_32 (tgt := 4) (by decide) ?_
    refine g_iload_n C 0 dX7_sureWeather_4 rfl rfl rfl ?_
    refine g_iconst C (v := 3) dX7_sureWeather_5 (by decide) rfl ?_
    refine g_icmp_ge C dX7_sureWeather_6 (tgt := 35) (by decide) (pc' := 9) rfl (fun c6 => absurd c6 (by decide)) (fun _ => ?_)
    refine g_aload_n C 2 dX7_sureWeather_9 rfl rfl rfl ?_
    refine g_iload_n C 3 dX7_sureWeather_10 rfl rfl rfl ?_
    refine g_iload_n C 0 dX7_sureWeather_11 rfl rfl rfl ?_
    refine g_callVl C (As := [.int (nI (k)), .int (1)]) (q := (RX7, TX7, 8)) (k_X7_oddsOf l D b z hwn hOK (k := k) (w := 1) (by omega) (by omega)) hw_7_61 (hOl.1) rfl (by decide) rfl rfl (Nat.le_of_ble_eq_true rfl) ⟨Nat.zero_le _, Nat.zero_le _⟩ dX7_sureWeather_12 (pc' := 15) rfl ?_
    rintro r5 h9 ⟨er, e9⟩
    subst h9; subst er
    refine g_lconst C (v := 0) dX7_sureWeather_15 (by decide) rfl ?_
    refine g_lcmp C dX7_sureWeather_16 rfl ?_
    refine g_if_le C dX7_sureWeather_17 (tgt := 29) (by decide) (pc' := 20) rfl ?_ ?_
    · intro c17a
      replace c17a := (lg_cmp_le _ _).mp c17a
      refine g_iinc C (v := 2) 0 ([(3, .int (2)), (2, .int (0)), (0, .ref (a)), (1, .int (nI (k)))]) dX7_sureWeather_29 rfl (by decide) (by decide) rfl rfl ?_
      refine g_goto C dX7_sureWeather_32 (tgt := 4) (by decide) ?_
      refine g_iload_n C 0 dX7_sureWeather_4 rfl rfl rfl ?_
      refine g_iconst C (v := 3) dX7_sureWeather_5 (by decide) rfl ?_
      refine g_icmp_ge C dX7_sureWeather_6 (tgt := 35) (by decide) (pc' := 9) rfl (fun c6 => absurd c6 (by decide)) (fun _ => ?_)
      refine g_aload_n C 2 dX7_sureWeather_9 rfl rfl rfl ?_
      refine g_iload_n C 3 dX7_sureWeather_10 rfl rfl rfl ?_
      refine g_iload_n C 0 dX7_sureWeather_11 rfl rfl rfl ?_
      refine g_callVl C (As := [.int (nI (k)), .int (2)]) (q := (RX7, TX7, 8)) (k_X7_oddsOf l D b z hwn hOK (k := k) (w := 2) (by omega) (by omega)) hw_7_61 (hOl.1) rfl (by decide) rfl rfl (Nat.le_of_ble_eq_true rfl) ⟨Nat.zero_le _, Nat.zero_le _⟩ dX7_sureWeather_12 (pc' := 15) rfl ?_
      rintro r6 h9 ⟨er, e9⟩
      subst h9; subst er
      refine g_lconst C (v := 0) dX7_sureWeather_15 (by decide) rfl ?_
      refine g_lcmp C dX7_sureWeather_16 rfl ?_
      refine g_if_le C dX7_sureWeather_17 (tgt := 29) (by decide) (pc' := 20) rfl ?_ ?_
      · intro c17b
        replace c17b := (lg_cmp_le _ _).mp c17b
        refine g_iinc C (v := 3) 0 ([(3, .int (3)), (2, .int (0)), (0, .ref (a)), (1, .int (nI (k)))]) dX7_sureWeather_29 rfl (by decide) (by decide) rfl rfl ?_
        refine g_goto C dX7_sureWeather_32 (tgt := 4) (by decide) ?_
        refine g_iload_n C 0 dX7_sureWeather_4 rfl rfl rfl ?_
        refine g_iconst C (v := 3) dX7_sureWeather_5 (by decide) rfl ?_
        refine g_icmp_ge C dX7_sureWeather_6 (tgt := 35) (by decide) (pc' := 9) rfl (fun _ => ?_) (fun c6 => absurd (by decide) c6)
        refine g_iload_n C 1 dX7_sureWeather_35 rfl rfl rfl ?_
        exact ret _ _ _ _ dX7_sureWeather_36 rfl (⟨by simp only [srF, if_neg c17, if_pos c17a, if_pos c17b], rfl⟩)
      · intro c17b
        replace c17b := (not_congr (lg_cmp_le _ _)).mp c17b
        refine g_iload_n C 1 dX7_sureWeather_20 rfl rfl rfl ?_
        refine g_iconst C (v := -1) dX7_sureWeather_21 (by decide) rfl ?_
        refine g_icmp_eq C dX7_sureWeather_22 (tgt := 27) (by decide) (pc' := 25) rfl (fun c22 => absurd c22 (by decide)) (fun _ => ?_)
        refine g_iconst C (v := -1) dX7_sureWeather_25 (by decide) rfl ?_
        exact ret _ _ _ _ dX7_sureWeather_26 rfl (⟨by simp only [srF, if_neg c17, if_pos c17a, if_neg c17b], rfl⟩)
    · intro c17a
      replace c17a := (not_congr (lg_cmp_le _ _)).mp c17a
      refine g_iload_n C 1 dX7_sureWeather_20 rfl rfl rfl ?_
      refine g_iconst C (v := -1) dX7_sureWeather_21 (by decide) rfl ?_
      refine g_icmp_eq C dX7_sureWeather_22 (tgt := 27) (by decide) (pc' := 25) rfl (fun c22 => absurd c22 (by decide)) (fun _ => ?_)
      refine g_iconst C (v := -1) dX7_sureWeather_25 (by decide) rfl ?_
      exact ret _ _ _ _ dX7_sureWeather_26 rfl (⟨by simp only [srF, if_neg c17, if_neg c17a], rfl⟩)
set_option maxHeartbeats 4000000 in
set_option maxRecDepth 100000 in
theorem k_X7_numberOfMostOdds (l : Launch) (D : va_G) (b z : Nat) {h : qH} {a s : Nat} {tn : Nat → Int32} {sl : Int32} {rd : Nat → Int32} {dn : Int32} {wn : Nat} (hwn : wn < 3) (hOK : OlOK D h a s tn sl rd dn wn) {e : Nat} (he : e < 10) (hSt : StAt D h s tn (nI e) sl) : qMi l D b yX7_numberOfMostOdds cX7_numberOfMostOdds 10 .int 2 46 [.ref (a)] h z (fun r h' => r = nI (grS (F_step tn sl rd) wn 6).1 ∧ h' = h) := by
  refine q_i (L := [(0, .ref (a))]) (own := RX7) (by decide) rfl (Nat.le_of_ble_eq_true rfl) rfl ?_
  intro X C ret
  obtain ⟨hOl, U, B, M, P, ⟨hU, hB, hM, hP⟩, hR, hRU⟩ := id hOK
  refine g_iconst C (v := 0) dX7_numberOfMostOdds_0 (by decide) rfl ?_
  refine g_istore_n C ([(1, .int (0)), (0, .ref (a))]) dX7_numberOfMostOdds_1 rfl (by decide) rfl rfl ?_
  refine g_aload_n C 1 dX7_numberOfMostOdds_2 rfl rfl rfl ?_
  refine gf_7_39 C (hOl.1) (v := .int (nI (wn))) rfl dX7_numberOfMostOdds_3 rfl ?_
  refine g_istore_n C ([(2, .int (nI (wn))), (1, .int (0)), (0, .ref (a))]) dX7_numberOfMostOdds_6 rfl (by decide) rfl rfl ?_
  refine g_iconst C (v := 1) dX7_numberOfMostOdds_7 (by decide) rfl ?_
  refine g_istore_n C ([(3, .int (1)), (2, .int (nI (wn))), (1, .int (0)), (0, .ref (a))]) dX7_numberOfMostOdds_8 rfl (by decide) rfl rfl ?_
  have loop9 : ∀ (N : Nat) (k : Nat) (nu : Int32) (fm : Nat), 6 - k < N → (k ≤ 6) → (nu = nI (grS (F_step tn sl rd) wn k).1) → (fm = (grS (F_step tn sl rd) wn k).2) → qG X 0 0 z h 9 [(3, .int (nI (k + 1))), (2, .int (nI (fm))), (1, .int (nu)), (0, .ref (a))] [] := by
    intro N
    induction N with
    | zero => intro k nu fm hm; exact absurd hm (Nat.not_lt_zero _)
    | succ N ih9 =>
      intro k nu fm hm hk hnu hfm
      refine g_iload_n C 0 dX7_numberOfMostOdds_9 rfl rfl rfl ?_
      refine g_bipush C (v := 6) dX7_numberOfMostOdds_10 (by decide) rfl ?_
      refine g_icmp_gt C dX7_numberOfMostOdds_12 (tgt := 88) (by decide) (pc' := 15) rfl ?_ ?_
      · intro c12
        replace c12 := (nI_ltI (a := 6) (b := k + 1) (by omega) (by omega)).mp c12
        refine g_iload_n C 2 dX7_numberOfMostOdds_88 rfl rfl rfl ?_
        exact ret _ _ _ _ dX7_numberOfMostOdds_89 rfl (⟨by rw [hnu, (by omega : k = 6)], rfl⟩)
      · intro c12
        replace c12 := (not_congr (nI_ltI (a := 6) (b := k + 1) (by omega) (by omega))).mp c12
        have hf3 : fm < 3 := by rw [hfm]; exact (grS_lt _ hwn k).1
        refine g_iconst C (v := 0) dX7_numberOfMostOdds_15 (by decide) rfl ?_
        refine g_istore C ([(4, .int (0)), (3, .int (nI (k + 1))), (2, .int (nI (fm))), (1, .int (nu)), (0, .ref (a))]) dX7_numberOfMostOdds_16 (by decide) rfl rfl ?_
        refine g_lconst C (v := 0) dX7_numberOfMostOdds_18 (by decide) rfl ?_
        refine g_lstore C ([(5, .long (0)), (4, .int (0)), (3, .int (nI (k + 1))), (2, .int (nI (fm))), (1, .int (nu)), (0, .ref (a))]) dX7_numberOfMostOdds_19 (by decide) rfl rfl ?_
        refine g_iconst C (v := 0) dX7_numberOfMostOdds_21 (by decide) rfl ?_
        refine g_istore C ([(7, .int (0)), (5, .long (0)), (4, .int (0)), (3, .int (nI (k + 1))), (2, .int (nI (fm))), (1, .int (nu)), (0, .ref (a))]) dX7_numberOfMostOdds_22 (by decide) rfl rfl ?_
        have loop24 : ∀ (N : Nat) (w : Nat) (t : Nat) (mo : Int64), 3 - w < N → (w ≤ 3) → (t = (pk3 (fun w => (F_step tn sl rd) (k + 1) fm w * mxD (F_step tn sl rd) (6 - (k + 1)) w) w).1) → (mo = (pk3 (fun w => (F_step tn sl rd) (k + 1) fm w * mxD (F_step tn sl rd) (6 - (k + 1)) w) w).2) → qG X 0 0 z h 24 [(7, .int (nI (w))), (5, .long (mo)), (4, .int (nI (t))), (3, .int (nI (k + 1))), (2, .int (nI (fm))), (1, .int (nu)), (0, .ref (a))] [] := by
          intro N
          induction N with
          | zero => intro w t mo hm; exact absurd hm (Nat.not_lt_zero _)
          | succ N ih24 =>
            intro w t mo hm hw ht hmo
            refine g_iload C 0 dX7_numberOfMostOdds_24 rfl rfl ?_
            refine g_iconst C (v := 3) dX7_numberOfMostOdds_26 (by decide) rfl ?_
            refine g_icmp_ge C dX7_numberOfMostOdds_27 (tgt := 72) (by decide) (pc' := 30) rfl ?_ ?_
            · intro c27
              replace c27 := (nI_leI (a := 3) (b := w) (by omega) (by omega)).mp c27
              refine g_iload_n C 5 dX7_numberOfMostOdds_72 rfl rfl rfl ?_
              refine g_iconst C (v := 3) dX7_numberOfMostOdds_73 (by decide) rfl ?_
              refine g_imul C dX7_numberOfMostOdds_74 rfl ?_
              refine g_iload C 2 dX7_numberOfMostOdds_75 rfl rfl ?_
              refine g_iadd C dX7_numberOfMostOdds_77 rfl ?_
              refine g_istore_n C ([(1, .int (((nu) * (3)) + (nI (t)))), (7, .int (nI (w))), (5, .long (mo)), (4, .int (nI (t))), (3, .int (nI (k + 1))), (2, .int (nI (fm))), (0, .ref (a))]) dX7_numberOfMostOdds_78 rfl (by decide) rfl rfl ?_
              refine g_iload C 3 dX7_numberOfMostOdds_79 rfl rfl ?_
              refine g_istore_n C ([(2, .int (nI (t))), (1, .int (((nu) * (3)) + (nI (t)))), (7, .int (nI (w))), (5, .long (mo)), (4, .int (nI (t))), (3, .int (nI (k + 1))), (0, .ref (a))]) dX7_numberOfMostOdds_81 rfl (by decide) rfl rfl ?_
              refine g_iinc C (v := nI (k + 1 + 1)) 5 ([(3, .int (nI (k + 1 + 1))), (2, .int (nI (t))), (1, .int (((nu) * (3)) + (nI (t)))), (7, .int (nI (w))), (5, .long (mo)), (4, .int (nI (t))), (0, .ref (a))]) dX7_numberOfMostOdds_82 rfl (nI_1 _) (by decide) rfl rfl ?_
              refine g_goto C dX7_numberOfMostOdds_85 (tgt := 9) (by decide) ?_
              refine q_lsub [0, 1, 2, 6] (L' := [(3, .int (nI (k + 1 + 1))), (2, .int (nI (t))), (1, .int (((nu) * (3)) + (nI (t)))), (0, .ref (a))]) rfl ?_
              exact ih9 (k + 1) (((nu) * (3)) + (nI (t))) (t) (by omega) (by omega) (by rw [hnu, ht, (by omega : w = 3), hfm]; exact (congrArg (· + _) (pk_mul _ 3)).trans (nI_add _ _)) (by rw [ht, (by omega : w = 3), hfm]; rfl)
            · intro c27
              replace c27 := (not_congr (nI_leI (a := 3) (b := w) (by omega) (by omega))).mp c27
              refine g_aload_n C 6 dX7_numberOfMostOdds_30 rfl rfl rfl ?_
              refine g_iload_n C 3 dX7_numberOfMostOdds_31 rfl rfl rfl ?_
              refine g_iload_n C 4 dX7_numberOfMostOdds_32 rfl rfl rfl ?_
              refine g_iload C 0 dX7_numberOfMostOdds_33 rfl rfl ?_
              refine g_callVl C (As := [.int (nI (k + 1)), .int (nI (fm)), .int (nI (w))]) (q := (RX7, TX7, 8)) (k_X7_stepOdds l D b z hOl he hSt (k := k + 1) (v := fm) (w := w) (by omega) (by omega) (by omega)) hw_7_65 (hOl.1) rfl (by decide) rfl rfl (Nat.le_of_ble_eq_true rfl) ⟨Nat.zero_le _, Nat.zero_le _⟩ dX7_numberOfMostOdds_35 (pc' := 38) rfl ?_
              rintro r1 h9 ⟨er, e9⟩
              subst h9; subst er
              refine g_aload_n C 6 dX7_numberOfMostOdds_38 rfl rfl rfl ?_
              refine gf_7_23 C (hOl.1) (v := .ref (a + 18)) rfl dX7_numberOfMostOdds_39 rfl ?_
              refine g_iload_n C 3 dX7_numberOfMostOdds_42 rfl rfl rfl ?_
              refine g_aaldJJ C (hM.1) (j := k + 1) rfl (by omega) (by decide) (gridF_at (by omega)) dX7_numberOfMostOdds_43 rfl ?_
              refine g_iload C 0 dX7_numberOfMostOdds_44 rfl rfl ?_
              refine g_lald' C (hM.2 (k + 1) (by omega)) (j := w) rfl (by omega) (by decide) dX7_numberOfMostOdds_46 rfl ?_
              refine g_lmul C dX7_numberOfMostOdds_47 rfl ?_
              refine g_lstore C ([(8, .long ((F_step tn sl rd (k + 1) (fm) (w)) * (M (k + 1) (w)))), (7, .int (nI (w))), (5, .long (mo)), (4, .int (nI (t))), (3, .int (nI (k + 1))), (2, .int (nI (fm))), (1, .int (nu)), (0, .ref (a))]) dX7_numberOfMostOdds_48 (by decide) rfl rfl ?_
              refine g_lload C 0 dX7_numberOfMostOdds_50 rfl rfl ?_
              refine g_lload C 2 dX7_numberOfMostOdds_52 rfl rfl ?_
              refine g_lcmp C dX7_numberOfMostOdds_54 rfl ?_
              refine g_if_le C dX7_numberOfMostOdds_55 (tgt := 66) (by decide) (pc' := 58) rfl ?_ ?_
              · intro c55
                replace c55 := (lg_cmp_le _ _).mp c55
                refine g_iinc C (v := nI (w + 1)) 1 ([(7, .int (nI (w + 1))), (8, .long ((F_step tn sl rd (k + 1) (fm) (w)) * (M (k + 1) (w)))), (5, .long (mo)), (4, .int (nI (t))), (3, .int (nI (k + 1))), (2, .int (nI (fm))), (1, .int (nu)), (0, .ref (a))]) dX7_numberOfMostOdds_66 rfl (nI_1 _) (by decide) rfl rfl ?_
                refine g_goto C dX7_numberOfMostOdds_69 (tgt := 24) (by decide) ?_
                refine q_lsub [0, 2, 3, 4, 5, 6, 7] (L' := [(7, .int (nI (w + 1))), (5, .long (mo)), (4, .int (nI (t))), (3, .int (nI (k + 1))), (2, .int (nI (fm))), (1, .int (nu)), (0, .ref (a))]) rfl ?_
                exact ih24 (w + 1) (t) (mo) (by omega) (by omega) (by rw [hmo, (hR (k + 1) (by omega) w (by omega)).2.1] at c55; have e := pk3_pos (f := (fun w => (F_step tn sl rd) (k + 1) fm w * mxD (F_step tn sl rd) (6 - (k + 1)) w)) (w := w) c55; rw [e]; exact ht) (by rw [hmo, (hR (k + 1) (by omega) w (by omega)).2.1] at c55; have e := pk3_pos (f := (fun w => (F_step tn sl rd) (k + 1) fm w * mxD (F_step tn sl rd) (6 - (k + 1)) w)) (w := w) c55; rw [e]; exact hmo)
              · intro c55
                replace c55 := (not_congr (lg_cmp_le _ _)).mp c55
                refine g_lload C 0 dX7_numberOfMostOdds_58 rfl rfl ?_
                refine g_lstore C ([(5, .long ((F_step tn sl rd (k + 1) (fm) (w)) * (M (k + 1) (w)))), (8, .long ((F_step tn sl rd (k + 1) (fm) (w)) * (M (k + 1) (w)))), (7, .int (nI (w))), (4, .int (nI (t))), (3, .int (nI (k + 1))), (2, .int (nI (fm))), (1, .int (nu)), (0, .ref (a))]) dX7_numberOfMostOdds_60 (by decide) rfl rfl ?_
                refine g_iload C 2 dX7_numberOfMostOdds_62 rfl rfl ?_
                refine g_istore C ([(4, .int (nI (w))), (5, .long ((F_step tn sl rd (k + 1) (fm) (w)) * (M (k + 1) (w)))), (8, .long ((F_step tn sl rd (k + 1) (fm) (w)) * (M (k + 1) (w)))), (7, .int (nI (w))), (3, .int (nI (k + 1))), (2, .int (nI (fm))), (1, .int (nu)), (0, .ref (a))]) dX7_numberOfMostOdds_64 (by decide) rfl rfl ?_
                refine g_iinc C (v := nI (w + 1)) 3 ([(7, .int (nI (w + 1))), (4, .int (nI (w))), (5, .long ((F_step tn sl rd (k + 1) (fm) (w)) * (M (k + 1) (w)))), (8, .long ((F_step tn sl rd (k + 1) (fm) (w)) * (M (k + 1) (w)))), (3, .int (nI (k + 1))), (2, .int (nI (fm))), (1, .int (nu)), (0, .ref (a))]) dX7_numberOfMostOdds_66 rfl (nI_1 _) (by decide) rfl rfl ?_
                refine g_goto C dX7_numberOfMostOdds_69 (tgt := 24) (by decide) ?_
                refine q_lsub [0, 2, 1, 4, 5, 6, 7] (L' := [(7, .int (nI (w + 1))), (5, .long ((F_step tn sl rd (k + 1) (fm) (w)) * (M (k + 1) (w)))), (4, .int (nI (w))), (3, .int (nI (k + 1))), (2, .int (nI (fm))), (1, .int (nu)), (0, .ref (a))]) rfl ?_
                exact ih24 (w + 1) (w) ((F_step tn sl rd (k + 1) (fm) (w)) * (M (k + 1) (w))) (by omega) (by omega) (by rw [hmo, (hR (k + 1) (by omega) w (by omega)).2.1] at c55; have e := pk3_neg (f := (fun w => (F_step tn sl rd) (k + 1) fm w * mxD (F_step tn sl rd) (6 - (k + 1)) w)) (w := w) c55; rw [e]) (by rw [(hR (k + 1) (by omega) w (by omega)).2.1]; rw [hmo, (hR (k + 1) (by omega) w (by omega)).2.1] at c55; have e := pk3_neg (f := (fun w => (F_step tn sl rd) (k + 1) fm w * mxD (F_step tn sl rd) (6 - (k + 1)) w)) (w := w) c55; rw [e])
        exact loop24 _ (0) (0) (0) (Nat.lt_succ_self _) (by omega) (rfl) (rfl)
  exact loop9 _ (0) (0) (wn) (Nat.lt_succ_self _) (by omega) (rfl) (rfl)
set_option maxHeartbeats 4000000 in
set_option maxRecDepth 100000 in
theorem k_X7_meanByKnowing (l : Launch) (D : va_G) (b z : Nat) {h : qH} {a s : Nat} {tn : Nat → Int32} {sl : Int32} {rd : Nat → Int32} {dn : Int32} {wn : Nat} (hwn : wn < 3) (hOK : OlOK D h a s tn sl rd dn wn) {e : Nat} (he : e < 10) (hSt : StAt D h s tn (nI e) sl) (r c t : Int32) : qMl l D b yX7_meanByKnowing cX7_meanByKnowing 8 2 42 [.ref (a), .int (r), .int (c), .int (t)] h z (fun r' h' => r' = mbF (fun w => oddF (F_step tn sl rd) wn 1 w) sl r c t ∧ h' = h) := by
  refine q_l (L := [(0, .ref (a)), (1, .int (r)), (2, .int (c)), (3, .int (t))]) (own := RX7) (by decide) rfl (Nat.le_of_ble_eq_true rfl) rfl ?_
  intro X C ret
  obtain ⟨hOl, U, B, M, P, ⟨hU, hB, hM, hP⟩, hR, hRU⟩ := id hOK
  refine g_lconst C (v := 0) dX7_meanByKnowing_0 (by decide) rfl ?_
  refine g_lstore C ([(4, .long (0)), (0, .ref (a)), (1, .int (r)), (2, .int (c)), (3, .int (t))]) dX7_meanByKnowing_1 (by decide) rfl rfl ?_
  refine g_iconst C (v := 0) dX7_meanByKnowing_3 (by decide) rfl ?_
  refine g_istore C ([(6, .int (0)), (4, .long (0)), (0, .ref (a)), (1, .int (r)), (2, .int (c)), (3, .int (t))]) dX7_meanByKnowing_4 (by decide) rfl rfl ?_
  refine g_iload C 0 dX7_meanByKnowing_6 rfl rfl ?_
  refine g_iconst C (v := 3) dX7_meanByKnowing_8 (by decide) rfl ?_
  refine g_icmp_ge C dX7_meanByKnowing_9 (tgt := 42) (by decide) (pc' := 12) rfl (fun c9 => absurd c9 (by decide)) (fun _ => ?_)
  refine g_lload C 1 dX7_meanByKnowing_12 rfl rfl ?_
  refine g_aload_n C 2 dX7_meanByKnowing_14 rfl rfl rfl ?_
  refine g_iconst C (v := 1) dX7_meanByKnowing_15 (by decide) rfl ?_
  refine g_iload C 0 dX7_meanByKnowing_16 rfl rfl ?_
  refine g_callVl C (As := [.int (1), .int (0)]) (q := (RX7, TX7, 8)) (k_X7_oddsOf l D b z hwn hOK (k := 1) (w := 0) (by omega) (by omega)) hw_7_61 (hOl.1) rfl (by decide) rfl rfl (Nat.le_of_ble_eq_true rfl) ⟨Nat.zero_le _, Nat.zero_le _⟩ dX7_meanByKnowing_18 (pc' := 21) rfl ?_
  rintro r1 h9 ⟨er, e9⟩
  subst h9; subst er
  refine g_aload_n C 2 dX7_meanByKnowing_21 rfl rfl rfl ?_
  refine gf_7_31 C (hOl.1) (v := .ref (s)) rfl dX7_meanByKnowing_22 rfl ?_
  refine g_iload_n C 3 dX7_meanByKnowing_25 rfl rfl rfl ?_
  refine g_iload C 0 dX7_meanByKnowing_26 rfl rfl ?_
  refine g_callVi C (As := [.int (r), .int (0)]) (q := (RX9, TX9, 3)) (k_X9_fit l D b z he hSt (r) (w := 0) (by omega)) hw_7_69 (hSt.1) rfl (by decide) rfl rfl (Nat.le_of_ble_eq_true rfl) ⟨Nat.zero_le _, Nat.zero_le _⟩ dX7_meanByKnowing_28 (pc' := 31) rfl ?_
  rintro r2 h9 ⟨er, e9⟩
  subst h9; subst er
  refine g_i2l C dX7_meanByKnowing_31 rfl ?_
  refine g_lmul C dX7_meanByKnowing_32 rfl ?_
  refine g_ladd C dX7_meanByKnowing_33 rfl ?_
  refine g_lstore C ([(4, .long ((0) + ((oddF (F_step tn sl rd) wn (1) (0)) * ((F_fit sl (r) (0)).toInt64)))), (6, .int (0)), (0, .ref (a)), (1, .int (r)), (2, .int (c)), (3, .int (t))]) dX7_meanByKnowing_34 (by decide) rfl rfl ?_
  refine g_iinc C (v := 1) 1 ([(6, .int (1)), (4, .long ((0) + ((oddF (F_step tn sl rd) wn (1) (0)) * ((F_fit sl (r) (0)).toInt64)))), (0, .ref (a)), (1, .int (r)), (2, .int (c)), (3, .int (t))]) dX7_meanByKnowing_36 rfl (by decide) (by decide) rfl rfl ?_
  refine g_goto C dX7_meanByKnowing_39 (tgt := 6) (by decide) ?_
  refine g_iload C 0 dX7_meanByKnowing_6 rfl rfl ?_
  refine g_iconst C (v := 3) dX7_meanByKnowing_8 (by decide) rfl ?_
  refine g_icmp_ge C dX7_meanByKnowing_9 (tgt := 42) (by decide) (pc' := 12) rfl (fun c9 => absurd c9 (by decide)) (fun _ => ?_)
  refine g_lload C 1 dX7_meanByKnowing_12 rfl rfl ?_
  refine g_aload_n C 2 dX7_meanByKnowing_14 rfl rfl rfl ?_
  refine g_iconst C (v := 1) dX7_meanByKnowing_15 (by decide) rfl ?_
  refine g_iload C 0 dX7_meanByKnowing_16 rfl rfl ?_
  refine g_callVl C (As := [.int (1), .int (1)]) (q := (RX7, TX7, 8)) (k_X7_oddsOf l D b z hwn hOK (k := 1) (w := 1) (by omega) (by omega)) hw_7_61 (hOl.1) rfl (by decide) rfl rfl (Nat.le_of_ble_eq_true rfl) ⟨Nat.zero_le _, Nat.zero_le _⟩ dX7_meanByKnowing_18 (pc' := 21) rfl ?_
  rintro r3 h9 ⟨er, e9⟩
  subst h9; subst er
  refine g_aload_n C 2 dX7_meanByKnowing_21 rfl rfl rfl ?_
  refine gf_7_31 C (hOl.1) (v := .ref (s)) rfl dX7_meanByKnowing_22 rfl ?_
  refine g_iload_n C 3 dX7_meanByKnowing_25 rfl rfl rfl ?_
  refine g_iload C 0 dX7_meanByKnowing_26 rfl rfl ?_
  refine g_callVi C (As := [.int (r), .int (1)]) (q := (RX9, TX9, 3)) (k_X9_fit l D b z he hSt (r) (w := 1) (by omega)) hw_7_69 (hSt.1) rfl (by decide) rfl rfl (Nat.le_of_ble_eq_true rfl) ⟨Nat.zero_le _, Nat.zero_le _⟩ dX7_meanByKnowing_28 (pc' := 31) rfl ?_
  rintro r4 h9 ⟨er, e9⟩
  subst h9; subst er
  refine g_i2l C dX7_meanByKnowing_31 rfl ?_
  refine g_lmul C dX7_meanByKnowing_32 rfl ?_
  refine g_ladd C dX7_meanByKnowing_33 rfl ?_
  refine g_lstore C ([(4, .long (((0) + ((oddF (F_step tn sl rd) wn (1) (0)) * ((F_fit sl (r) (0)).toInt64))) + ((oddF (F_step tn sl rd) wn (1) (1)) * ((F_fit sl (r) (1)).toInt64)))), (6, .int (1)), (0, .ref (a)), (1, .int (r)), (2, .int (c)), (3, .int (t))]) dX7_meanByKnowing_34 (by decide) rfl rfl ?_
  refine g_iinc C (v := 2) 1 ([(6, .int (2)), (4, .long (((0) + ((oddF (F_step tn sl rd) wn (1) (0)) * ((F_fit sl (r) (0)).toInt64))) + ((oddF (F_step tn sl rd) wn (1) (1)) * ((F_fit sl (r) (1)).toInt64)))), (0, .ref (a)), (1, .int (r)), (2, .int (c)), (3, .int (t))]) dX7_meanByKnowing_36 rfl (by decide) (by decide) rfl rfl ?_
  refine g_goto C dX7_meanByKnowing_39 (tgt := 6) (by decide) ?_
  refine g_iload C 0 dX7_meanByKnowing_6 rfl rfl ?_
  refine g_iconst C (v := 3) dX7_meanByKnowing_8 (by decide) rfl ?_
  refine g_icmp_ge C dX7_meanByKnowing_9 (tgt := 42) (by decide) (pc' := 12) rfl (fun c9 => absurd c9 (by decide)) (fun _ => ?_)
  refine g_lload C 1 dX7_meanByKnowing_12 rfl rfl ?_
  refine g_aload_n C 2 dX7_meanByKnowing_14 rfl rfl rfl ?_
  refine g_iconst C (v := 1) dX7_meanByKnowing_15 (by decide) rfl ?_
  refine g_iload C 0 dX7_meanByKnowing_16 rfl rfl ?_
  refine g_callVl C (As := [.int (1), .int (2)]) (q := (RX7, TX7, 8)) (k_X7_oddsOf l D b z hwn hOK (k := 1) (w := 2) (by omega) (by omega)) hw_7_61 (hOl.1) rfl (by decide) rfl rfl (Nat.le_of_ble_eq_true rfl) ⟨Nat.zero_le _, Nat.zero_le _⟩ dX7_meanByKnowing_18 (pc' := 21) rfl ?_
  rintro r5 h9 ⟨er, e9⟩
  subst h9; subst er
  refine g_aload_n C 2 dX7_meanByKnowing_21 rfl rfl rfl ?_
  refine gf_7_31 C (hOl.1) (v := .ref (s)) rfl dX7_meanByKnowing_22 rfl ?_
  refine g_iload_n C 3 dX7_meanByKnowing_25 rfl rfl rfl ?_
  refine g_iload C 0 dX7_meanByKnowing_26 rfl rfl ?_
  refine g_callVi C (As := [.int (r), .int (2)]) (q := (RX9, TX9, 3)) (k_X9_fit l D b z he hSt (r) (w := 2) (by omega)) hw_7_69 (hSt.1) rfl (by decide) rfl rfl (Nat.le_of_ble_eq_true rfl) ⟨Nat.zero_le _, Nat.zero_le _⟩ dX7_meanByKnowing_28 (pc' := 31) rfl ?_
  rintro r6 h9 ⟨er, e9⟩
  subst h9; subst er
  refine g_i2l C dX7_meanByKnowing_31 rfl ?_
  refine g_lmul C dX7_meanByKnowing_32 rfl ?_
  refine g_ladd C dX7_meanByKnowing_33 rfl ?_
  refine g_lstore C ([(4, .long ((((0) + ((oddF (F_step tn sl rd) wn (1) (0)) * ((F_fit sl (r) (0)).toInt64))) + ((oddF (F_step tn sl rd) wn (1) (1)) * ((F_fit sl (r) (1)).toInt64))) + ((oddF (F_step tn sl rd) wn (1) (2)) * ((F_fit sl (r) (2)).toInt64)))), (6, .int (2)), (0, .ref (a)), (1, .int (r)), (2, .int (c)), (3, .int (t))]) dX7_meanByKnowing_34 (by decide) rfl rfl ?_
  refine g_iinc C (v := 3) 1 ([(6, .int (3)), (4, .long ((((0) + ((oddF (F_step tn sl rd) wn (1) (0)) * ((F_fit sl (r) (0)).toInt64))) + ((oddF (F_step tn sl rd) wn (1) (1)) * ((F_fit sl (r) (1)).toInt64))) + ((oddF (F_step tn sl rd) wn (1) (2)) * ((F_fit sl (r) (2)).toInt64)))), (0, .ref (a)), (1, .int (r)), (2, .int (c)), (3, .int (t))]) dX7_meanByKnowing_36 rfl (by decide) (by decide) rfl rfl ?_
  refine g_goto C dX7_meanByKnowing_39 (tgt := 6) (by decide) ?_
  refine g_iload C 0 dX7_meanByKnowing_6 rfl rfl ?_
  refine g_iconst C (v := 3) dX7_meanByKnowing_8 (by decide) rfl ?_
  refine g_icmp_ge C dX7_meanByKnowing_9 (tgt := 42) (by decide) (pc' := 12) rfl (fun _ => ?_) (fun c9 => absurd (by decide) c9)
  refine g_aload_n C 2 dX7_meanByKnowing_42 rfl rfl rfl ?_
  refine g_iconst C (v := 1) dX7_meanByKnowing_43 (by decide) rfl ?_
  refine g_iconst C (v := 1) dX7_meanByKnowing_44 (by decide) rfl ?_
  refine g_callVl C (As := [.int (1), .int (1)]) (q := (RX7, TX7, 8)) (k_X7_oddsOf l D b z hwn hOK (k := 1) (w := 1) (by omega) (by omega)) hw_7_61 (hOl.1) rfl (by decide) rfl rfl (Nat.le_of_ble_eq_true rfl) ⟨Nat.zero_le _, Nat.zero_le _⟩ dX7_meanByKnowing_45 (pc' := 48) rfl ?_
  rintro r7 h9 ⟨er, e9⟩
  subst h9; subst er
  refine g_aload_n C 2 dX7_meanByKnowing_48 rfl rfl rfl ?_
  refine gf_7_31 C (hOl.1) (v := .ref (s)) rfl dX7_meanByKnowing_49 rfl ?_
  refine g_iload_n C 3 dX7_meanByKnowing_52 rfl rfl rfl ?_
  refine g_iconst C (v := 1) dX7_meanByKnowing_53 (by decide) rfl ?_
  refine g_callVi C (As := [.int (r), .int (1)]) (q := (RX9, TX9, 3)) (k_X9_fit l D b z he hSt (r) (w := 1) (by omega)) hw_7_69 (hSt.1) rfl (by decide) rfl rfl (Nat.le_of_ble_eq_true rfl) ⟨Nat.zero_le _, Nat.zero_le _⟩ dX7_meanByKnowing_54 (pc' := 57) rfl ?_
  rintro r8 h9 ⟨er, e9⟩
  subst h9; subst er
  refine g_i2l C dX7_meanByKnowing_57 rfl ?_
  refine g_lmul C dX7_meanByKnowing_58 rfl ?_
  refine g_lstore C ([(6, .long ((oddF (F_step tn sl rd) wn (1) (1)) * ((F_fit sl (r) (1)).toInt64))), (4, .long ((((0) + ((oddF (F_step tn sl rd) wn (1) (0)) * ((F_fit sl (r) (0)).toInt64))) + ((oddF (F_step tn sl rd) wn (1) (1)) * ((F_fit sl (r) (1)).toInt64))) + ((oddF (F_step tn sl rd) wn (1) (2)) * ((F_fit sl (r) (2)).toInt64)))), (0, .ref (a)), (1, .int (r)), (2, .int (c)), (3, .int (t))]) dX7_meanByKnowing_59 (by decide) rfl rfl ?_
  refine g_iload_n C 4 dX7_meanByKnowing_61 rfl rfl rfl ?_
  refine g_i2l C dX7_meanByKnowing_62 rfl ?_
  refine g_lload C 1 dX7_meanByKnowing_63 rfl rfl ?_
  refine g_lmul C dX7_meanByKnowing_65 rfl ?_
  refine g_iload_n C 5 dX7_meanByKnowing_66 rfl rfl rfl ?_
  refine g_i2l C dX7_meanByKnowing_67 rfl ?_
  refine g_lload C 0 dX7_meanByKnowing_68 rfl rfl ?_
  refine g_lmul C dX7_meanByKnowing_70 rfl ?_
  refine g_mmin C hw_7_73 ⟨Nat.le_of_ble_eq_true rfl, Nat.le_of_ble_eq_true rfl⟩ ⟨Nat.zero_le _, Nat.zero_le _⟩ dX7_meanByKnowing_71 (v := mn64 (((c).toInt64) * ((((0) + ((oddF (F_step tn sl rd) wn (1) (0)) * ((F_fit sl (r) (0)).toInt64))) + ((oddF (F_step tn sl rd) wn (1) (1)) * ((F_fit sl (r) (1)).toInt64))) + ((oddF (F_step tn sl rd) wn (1) (2)) * ((F_fit sl (r) (2)).toInt64)))) (((t).toInt64) * ((oddF (F_step tn sl rd) wn (1) (1)) * ((F_fit sl (r) (1)).toInt64)))) rfl (hv := rfl) ?_
  exact ret _ _ _ _ dX7_meanByKnowing_74 (⟨rfl, rfl⟩)
theorem Ol4.put {D : va_G} {h h1 : qH} {a : Nat} {U B M : Nat → Nat → Int64} {P : Nat → Nat → Int32} (H : Ol4 D h a U B M P) {t : Nat} (ht : t < a + 2 ∨ a + 34 ≤ t) (o : ∀ q, q ≠ t → h1 q = h q) : Ol4 D h1 a U B M P := ⟨H.1.fr (fun q g1 g2 => o q (by omega)), H.2.1.fr (fun q g1 g2 => o q (by omega)), H.2.2.1.fr (fun q g1 g2 => o q (by omega)), H.2.2.2.fr (fun q g1 g2 => o q (by omega))⟩
set_option maxHeartbeats 4000000 in
set_option maxRecDepth 100000 in
theorem k_X7_startAnew (l : Launch) (D : va_G) (b z : Nat) {h : qH} {a s : Nat} {tn : Nat → Int32} {sl : Int32} {rd : Nat → Int32} {dn w0 : Int32} (hAny : OlAny D h a s rd dn w0) {e : Nat} (he : e < 10) (hSt : StAt D h s tn (nI e) sl) (hds : s + 2 ≤ a ∨ a + 34 ≤ s) {f : Nat} (hf : f < 3) : qMv l D b yX7_startAnew cX7_startAnew 3 4 91 [.ref (a), .int (nI (f))] h z (fun h' => (∃ rd', OlOK D h' a s tn sl rd' 0 f ∧ ∀ j, j < 5 → rd' j = -1) ∧ ∀ q, (q < a ∨ a + 34 ≤ q) → h' q = h q) := by
  refine q_v (L := [(0, .ref (a)), (1, .int (nI (f)))]) (own := RX7) (by decide) rfl (Nat.le_of_ble_eq_true rfl) rfl ?_
  intro X C ret
  have hO : ∀ q, (q < a ∨ a + 34 ≤ q) → h q = h q := fun _ _ => rfl
  obtain ⟨hOl, U, B, M, P, hG4⟩ := id hAny
  refine g_aload_n C 0 dX7_startAnew_0 rfl rfl rfl ?_
  refine g_iconst C (v := 0) dX7_startAnew_1 (by decide) rfl ?_
  refine pf_7_35 C (hOl.1) (v := .int (0)) rfl rfl (Nat.le_of_ble_eq_true rfl) dX7_startAnew_2 (pc' := 5) rfl (fun h1 e2 o3 => ?_)
  have hOl : OlAt D h1 (a) (s) (rd) (0) (w0) := ⟨e2, (o3 _ (by omega)).trans hOl.2⟩
  have hSt : StAt D h1 (s) (tn) (nI (e)) (sl) := ⟨(o3 _ (by omega)).trans hSt.1, (o3 _ (by omega)).trans hSt.2⟩
  have hG4 : Ol4 D h1 a U B M P := hG4.put (by omega) o3
  have hO : ∀ q, (q < a ∨ a + 34 ≤ q) → h1 q = h q := fun q hq => (o3 q (by omega)).trans (hO q hq)
  refine g_aload_n C 0 dX7_startAnew_5 rfl rfl rfl ?_
  refine g_iload_n C 1 dX7_startAnew_6 rfl rfl rfl ?_
  refine pf_7_39 C (hOl.1) (v := .int (nI (f))) rfl rfl (Nat.le_of_ble_eq_true rfl) dX7_startAnew_7 (pc' := 10) rfl (fun h4 e5 o6 => ?_)
  have hOl : OlAt D h4 (a) (s) (rd) (0) (nI (f)) := ⟨e5, (o6 _ (by omega)).trans hOl.2⟩
  have hSt : StAt D h4 (s) (tn) (nI (e)) (sl) := ⟨(o6 _ (by omega)).trans hSt.1, (o6 _ (by omega)).trans hSt.2⟩
  have hG4 : Ol4 D h4 a U B M P := hG4.put (by omega) o6
  have hO : ∀ q, (q < a ∨ a + 34 ≤ q) → h4 q = h q := fun q hq => (o6 q (by omega)).trans (hO q hq)
  refine g_iconst C (v := 0) dX7_startAnew_10 (by decide) rfl ?_
  refine g_istore_n C ([(2, .int (0)), (0, .ref (a)), (1, .int (nI (f)))]) dX7_startAnew_11 rfl (by decide) rfl rfl ?_
  refine g_iload_n C 0 dX7_startAnew_12 rfl rfl rfl ?_
  refine g_iconst C (v := 4) dX7_startAnew_13 (by decide) rfl ?_
  refine g_icmp_gt C dX7_startAnew_14 (tgt := 30) (by decide) (pc' := 17) rfl (fun c14 => absurd c14 (by decide)) (fun _ => ?_)
  refine g_aload_n C 1 dX7_startAnew_17 rfl rfl rfl ?_
  refine gf_7_9 C (hOl.1) (v := .ref (a + 1)) rfl dX7_startAnew_18 rfl ?_
  refine g_iload_n C 0 dX7_startAnew_21 rfl rfl rfl ?_
  refine g_iconst C (v := -1) dX7_startAnew_22 (by decide) rfl ?_
  refine g_iast' C (hOl.2) (j := 0) rfl (by omega) (by decide) dX7_startAnew_23 (pc' := 24) rfl (fun h7 e8 o9 => ?_)
  have hOl : OlAt D h7 (a) (s) (upd (rd) (0) ((-1))) (0) (nI (f)) := ⟨(o9 _ (by omega)).trans hOl.1, e8⟩
  have hSt : StAt D h7 (s) (tn) (nI (e)) (sl) := ⟨(o9 _ (by omega)).trans hSt.1, (o9 _ (by omega)).trans hSt.2⟩
  have hG4 : Ol4 D h7 a U B M P := hG4.put (by omega) o9
  have hO : ∀ q, (q < a ∨ a + 34 ≤ q) → h7 q = h q := fun q hq => (o9 q (by omega)).trans (hO q hq)
  refine g_iinc C (v := 1) 0 ([(2, .int (1)), (0, .ref (a)), (1, .int (nI (f)))]) dX7_startAnew_24 rfl (by decide) (by decide) rfl rfl ?_
  refine g_goto C dX7_startAnew_27 (tgt := 12) (by decide) ?_
  refine g_iload_n C 0 dX7_startAnew_12 rfl rfl rfl ?_
  refine g_iconst C (v := 4) dX7_startAnew_13 (by decide) rfl ?_
  refine g_icmp_gt C dX7_startAnew_14 (tgt := 30) (by decide) (pc' := 17) rfl (fun c14 => absurd c14 (by decide)) (fun _ => ?_)
  refine g_aload_n C 1 dX7_startAnew_17 rfl rfl rfl ?_
  refine gf_7_9 C (hOl.1) (v := .ref (a + 1)) rfl dX7_startAnew_18 rfl ?_
  refine g_iload_n C 0 dX7_startAnew_21 rfl rfl rfl ?_
  refine g_iconst C (v := -1) dX7_startAnew_22 (by decide) rfl ?_
  refine g_iast' C (hOl.2) (j := 1) rfl (by omega) (by decide) dX7_startAnew_23 (pc' := 24) rfl (fun h10 e11 o12 => ?_)
  have hOl : OlAt D h10 (a) (s) (upd (upd (rd) (0) ((-1))) (1) ((-1))) (0) (nI (f)) := ⟨(o12 _ (by omega)).trans hOl.1, e11⟩
  have hSt : StAt D h10 (s) (tn) (nI (e)) (sl) := ⟨(o12 _ (by omega)).trans hSt.1, (o12 _ (by omega)).trans hSt.2⟩
  have hG4 : Ol4 D h10 a U B M P := hG4.put (by omega) o12
  have hO : ∀ q, (q < a ∨ a + 34 ≤ q) → h10 q = h q := fun q hq => (o12 q (by omega)).trans (hO q hq)
  refine g_iinc C (v := 2) 0 ([(2, .int (2)), (0, .ref (a)), (1, .int (nI (f)))]) dX7_startAnew_24 rfl (by decide) (by decide) rfl rfl ?_
  refine g_goto C dX7_startAnew_27 (tgt := 12) (by decide) ?_
  refine g_iload_n C 0 dX7_startAnew_12 rfl rfl rfl ?_
  refine g_iconst C (v := 4) dX7_startAnew_13 (by decide) rfl ?_
  refine g_icmp_gt C dX7_startAnew_14 (tgt := 30) (by decide) (pc' := 17) rfl (fun c14 => absurd c14 (by decide)) (fun _ => ?_)
  refine g_aload_n C 1 dX7_startAnew_17 rfl rfl rfl ?_
  refine gf_7_9 C (hOl.1) (v := .ref (a + 1)) rfl dX7_startAnew_18 rfl ?_
  refine g_iload_n C 0 dX7_startAnew_21 rfl rfl rfl ?_
  refine g_iconst C (v := -1) dX7_startAnew_22 (by decide) rfl ?_
  refine g_iast' C (hOl.2) (j := 2) rfl (by omega) (by decide) dX7_startAnew_23 (pc' := 24) rfl (fun h13 e14 o15 => ?_)
  have hOl : OlAt D h13 (a) (s) (upd (upd (upd (rd) (0) ((-1))) (1) ((-1))) (2) ((-1))) (0) (nI (f)) := ⟨(o15 _ (by omega)).trans hOl.1, e14⟩
  have hSt : StAt D h13 (s) (tn) (nI (e)) (sl) := ⟨(o15 _ (by omega)).trans hSt.1, (o15 _ (by omega)).trans hSt.2⟩
  have hG4 : Ol4 D h13 a U B M P := hG4.put (by omega) o15
  have hO : ∀ q, (q < a ∨ a + 34 ≤ q) → h13 q = h q := fun q hq => (o15 q (by omega)).trans (hO q hq)
  refine g_iinc C (v := 3) 0 ([(2, .int (3)), (0, .ref (a)), (1, .int (nI (f)))]) dX7_startAnew_24 rfl (by decide) (by decide) rfl rfl ?_
  refine g_goto C dX7_startAnew_27 (tgt := 12) (by decide) ?_
  refine g_iload_n C 0 dX7_startAnew_12 rfl rfl rfl ?_
  refine g_iconst C (v := 4) dX7_startAnew_13 (by decide) rfl ?_
  refine g_icmp_gt C dX7_startAnew_14 (tgt := 30) (by decide) (pc' := 17) rfl (fun c14 => absurd c14 (by decide)) (fun _ => ?_)
  refine g_aload_n C 1 dX7_startAnew_17 rfl rfl rfl ?_
  refine gf_7_9 C (hOl.1) (v := .ref (a + 1)) rfl dX7_startAnew_18 rfl ?_
  refine g_iload_n C 0 dX7_startAnew_21 rfl rfl rfl ?_
  refine g_iconst C (v := -1) dX7_startAnew_22 (by decide) rfl ?_
  refine g_iast' C (hOl.2) (j := 3) rfl (by omega) (by decide) dX7_startAnew_23 (pc' := 24) rfl (fun h16 e17 o18 => ?_)
  have hOl : OlAt D h16 (a) (s) (upd (upd (upd (upd (rd) (0) ((-1))) (1) ((-1))) (2) ((-1))) (3) ((-1))) (0) (nI (f)) := ⟨(o18 _ (by omega)).trans hOl.1, e17⟩
  have hSt : StAt D h16 (s) (tn) (nI (e)) (sl) := ⟨(o18 _ (by omega)).trans hSt.1, (o18 _ (by omega)).trans hSt.2⟩
  have hG4 : Ol4 D h16 a U B M P := hG4.put (by omega) o18
  have hO : ∀ q, (q < a ∨ a + 34 ≤ q) → h16 q = h q := fun q hq => (o18 q (by omega)).trans (hO q hq)
  refine g_iinc C (v := 4) 0 ([(2, .int (4)), (0, .ref (a)), (1, .int (nI (f)))]) dX7_startAnew_24 rfl (by decide) (by decide) rfl rfl ?_
  refine g_goto C dX7_startAnew_27 (tgt := 12) (by decide) ?_
  refine g_iload_n C 0 dX7_startAnew_12 rfl rfl rfl ?_
  refine g_iconst C (v := 4) dX7_startAnew_13 (by decide) rfl ?_
  refine g_icmp_gt C dX7_startAnew_14 (tgt := 30) (by decide) (pc' := 17) rfl (fun c14 => absurd c14 (by decide)) (fun _ => ?_)
  refine g_aload_n C 1 dX7_startAnew_17 rfl rfl rfl ?_
  refine gf_7_9 C (hOl.1) (v := .ref (a + 1)) rfl dX7_startAnew_18 rfl ?_
  refine g_iload_n C 0 dX7_startAnew_21 rfl rfl rfl ?_
  refine g_iconst C (v := -1) dX7_startAnew_22 (by decide) rfl ?_
  refine g_iast' C (hOl.2) (j := 4) rfl (by omega) (by decide) dX7_startAnew_23 (pc' := 24) rfl (fun h19 e20 o21 => ?_)
  have hOl : OlAt D h19 (a) (s) (upd (upd (upd (upd (upd (rd) (0) ((-1))) (1) ((-1))) (2) ((-1))) (3) ((-1))) (4) ((-1))) (0) (nI (f)) := ⟨(o21 _ (by omega)).trans hOl.1, e20⟩
  have hSt : StAt D h19 (s) (tn) (nI (e)) (sl) := ⟨(o21 _ (by omega)).trans hSt.1, (o21 _ (by omega)).trans hSt.2⟩
  have hG4 : Ol4 D h19 a U B M P := hG4.put (by omega) o21
  have hO : ∀ q, (q < a ∨ a + 34 ≤ q) → h19 q = h q := fun q hq => (o21 q (by omega)).trans (hO q hq)
  refine g_iinc C (v := 5) 0 ([(2, .int (5)), (0, .ref (a)), (1, .int (nI (f)))]) dX7_startAnew_24 rfl (by decide) (by decide) rfl rfl ?_
  refine g_goto C dX7_startAnew_27 (tgt := 12) (by decide) ?_
  refine g_iload_n C 0 dX7_startAnew_12 rfl rfl rfl ?_
  refine g_iconst C (v := 4) dX7_startAnew_13 (by decide) rfl ?_
  refine g_icmp_gt C dX7_startAnew_14 (tgt := 30) (by decide) (pc' := 17) rfl (fun _ => ?_) (fun c14 => absurd (by decide) c14)
  refine g_aload_n C 1 dX7_startAnew_30 rfl rfl rfl ?_
  refine g_callVv C (As := []) (q := (RX7, TX7, 8)) (k_X7_reckon l D b z (by omega) hOl he hSt hG4 hds) hw_7_42 (hOl.1) rfl (by decide) rfl rfl (Nat.le_of_ble_eq_true rfl) ⟨Nat.zero_le _, Nat.zero_le _⟩ dX7_startAnew_31 (pc' := 34) rfl ?_
  rintro h22 ⟨⟨U1, B1, M1, P1, hG4, hT⟩, fr23⟩
  have hOl : OlAt D h22 (a) (s) (upd (upd (upd (upd (upd (rd) (0) ((-1))) (1) ((-1))) (2) ((-1))) (3) ((-1))) (4) ((-1))) (0) (nI (f)) := hOl.fr (fun q g1 g2 => fr23 q (by omega))
  have hSt : StAt D h22 (s) (tn) (nI (e)) (sl) := hSt.fr (fun q g1 g2 => fr23 q (by omega))
  have hO : ∀ q, (q < a ∨ a + 34 ≤ q) → h22 q = h q := fun q hq => (fr23 q (by omega)).trans (hO q hq)
  exact ret _ _ _ dX7_startAnew_34 (⟨⟨_, ⟨hOl, _, _, _, _, hG4, hT⟩, lt5 (by simp [upd]) (by simp [upd]) (by simp [upd]) (by simp [upd]) (by simp [upd])⟩, hO⟩)
set_option maxHeartbeats 4000000 in
set_option maxRecDepth 100000 in
theorem k_X7_passDay (l : Launch) (D : va_G) (b z : Nat) {h : qH} {a s : Nat} {tn : Nat → Int32} {sl : Int32} {rd : Nat → Int32} {dn w0 : Int32} (hAny : OlAny D h a s rd dn w0) {e : Nat} (he : e < 10) (hSt : StAt D h s tn (nI e) sl) (hds : s + 2 ≤ a ∨ a + 34 ≤ s) {f : Nat} (hf : f < 3) : qMv l D b yX7_passDay cX7_passDay 3 4 91 [.ref (a), .int (nI (f))] h z (fun h' => (∃ rd', OlOK D h' a s tn sl rd' (dn + 1) f ∧ rd' 1 = rd 2 ∧ rd' 2 = rd 3 ∧ rd' 3 = rd 4 ∧ rd' 4 = -1 ∧ rd' 0 = rd 0) ∧ ∀ q, (q < a ∨ a + 34 ≤ q) → h' q = h q) := by
  refine q_v (L := [(0, .ref (a)), (1, .int (nI (f)))]) (own := RX7) (by decide) rfl (Nat.le_of_ble_eq_true rfl) rfl ?_
  intro X C ret
  have hO : ∀ q, (q < a ∨ a + 34 ≤ q) → h q = h q := fun _ _ => rfl
  obtain ⟨hOl, U, B, M, P, hG4⟩ := id hAny
  refine g_aload_n C 0 dX7_passDay_0 rfl rfl rfl ?_
  refine g_dup C rfl dX7_passDay_1 rfl ?_
  refine gf_7_35 C (hOl.1) (v := .int (dn)) rfl dX7_passDay_2 rfl ?_
  refine g_iconst C (v := 1) dX7_passDay_5 (by decide) rfl ?_
  refine g_iadd C dX7_passDay_6 rfl ?_
  refine pf_7_35 C (hOl.1) (v := .int ((dn) + (1))) rfl rfl (Nat.le_of_ble_eq_true rfl) dX7_passDay_7 (pc' := 10) rfl (fun h1 e2 o3 => ?_)
  have hOl : OlAt D h1 (a) (s) (rd) ((dn) + (1)) (w0) := ⟨e2, (o3 _ (by omega)).trans hOl.2⟩
  have hSt : StAt D h1 (s) (tn) (nI (e)) (sl) := ⟨(o3 _ (by omega)).trans hSt.1, (o3 _ (by omega)).trans hSt.2⟩
  have hG4 : Ol4 D h1 a U B M P := hG4.put (by omega) o3
  have hO : ∀ q, (q < a ∨ a + 34 ≤ q) → h1 q = h q := fun q hq => (o3 q (by omega)).trans (hO q hq)
  refine g_aload_n C 0 dX7_passDay_10 rfl rfl rfl ?_
  refine g_iload_n C 1 dX7_passDay_11 rfl rfl rfl ?_
  refine pf_7_39 C (hOl.1) (v := .int (nI (f))) rfl rfl (Nat.le_of_ble_eq_true rfl) dX7_passDay_12 (pc' := 15) rfl (fun h4 e5 o6 => ?_)
  have hOl : OlAt D h4 (a) (s) (rd) ((dn) + (1)) (nI (f)) := ⟨e5, (o6 _ (by omega)).trans hOl.2⟩
  have hSt : StAt D h4 (s) (tn) (nI (e)) (sl) := ⟨(o6 _ (by omega)).trans hSt.1, (o6 _ (by omega)).trans hSt.2⟩
  have hG4 : Ol4 D h4 a U B M P := hG4.put (by omega) o6
  have hO : ∀ q, (q < a ∨ a + 34 ≤ q) → h4 q = h q := fun q hq => (o6 q (by omega)).trans (hO q hq)
  refine g_iconst C (v := 1) dX7_passDay_15 (by decide) rfl ?_
  refine g_istore_n C ([(2, .int (1)), (0, .ref (a)), (1, .int (nI (f)))]) dX7_passDay_16 rfl (by decide) rfl rfl ?_
  refine g_iload_n C 0 dX7_passDay_17 rfl rfl rfl ?_
  refine g_iconst C (v := 4) dX7_passDay_18 (by decide) rfl ?_
  refine g_icmp_ge C dX7_passDay_19 (tgt := 42) (by decide) (pc' := 22) rfl (fun c19 => absurd c19 (by decide)) (fun _ => ?_)
  refine g_aload_n C 1 dX7_passDay_22 rfl rfl rfl ?_
  refine gf_7_9 C (hOl.1) (v := .ref (a + 1)) rfl dX7_passDay_23 rfl ?_
  refine g_iload_n C 0 dX7_passDay_26 rfl rfl rfl ?_
  refine g_aload_n C 1 dX7_passDay_27 rfl rfl rfl ?_
  refine gf_7_9 C (hOl.1) (v := .ref (a + 1)) rfl dX7_passDay_28 rfl ?_
  refine g_iload_n C 0 dX7_passDay_31 rfl rfl rfl ?_
  refine g_iconst C (v := 1) dX7_passDay_32 (by decide) rfl ?_
  refine g_iadd C dX7_passDay_33 rfl ?_
  refine g_topi (y := 2) (by decide) ?_
  refine g_iald' C (hOl.2) (j := 2) rfl (by omega) (by decide) dX7_passDay_34 rfl ?_
  refine g_iast' C (hOl.2) (j := 1) rfl (by omega) (by decide) dX7_passDay_35 (pc' := 36) rfl (fun h7 e8 o9 => ?_)
  have hOl : OlAt D h7 (a) (s) (upd (rd) (1) (rd (2))) ((dn) + (1)) (nI (f)) := ⟨(o9 _ (by omega)).trans hOl.1, e8⟩
  have hSt : StAt D h7 (s) (tn) (nI (e)) (sl) := ⟨(o9 _ (by omega)).trans hSt.1, (o9 _ (by omega)).trans hSt.2⟩
  have hG4 : Ol4 D h7 a U B M P := hG4.put (by omega) o9
  have hO : ∀ q, (q < a ∨ a + 34 ≤ q) → h7 q = h q := fun q hq => (o9 q (by omega)).trans (hO q hq)
  refine g_iinc C (v := 2) 0 ([(2, .int (2)), (0, .ref (a)), (1, .int (nI (f)))]) dX7_passDay_36 rfl (by decide) (by decide) rfl rfl ?_
  refine g_goto C dX7_passDay_39 (tgt := 17) (by decide) ?_
  refine g_iload_n C 0 dX7_passDay_17 rfl rfl rfl ?_
  refine g_iconst C (v := 4) dX7_passDay_18 (by decide) rfl ?_
  refine g_icmp_ge C dX7_passDay_19 (tgt := 42) (by decide) (pc' := 22) rfl (fun c19 => absurd c19 (by decide)) (fun _ => ?_)
  refine g_aload_n C 1 dX7_passDay_22 rfl rfl rfl ?_
  refine gf_7_9 C (hOl.1) (v := .ref (a + 1)) rfl dX7_passDay_23 rfl ?_
  refine g_iload_n C 0 dX7_passDay_26 rfl rfl rfl ?_
  refine g_aload_n C 1 dX7_passDay_27 rfl rfl rfl ?_
  refine gf_7_9 C (hOl.1) (v := .ref (a + 1)) rfl dX7_passDay_28 rfl ?_
  refine g_iload_n C 0 dX7_passDay_31 rfl rfl rfl ?_
  refine g_iconst C (v := 1) dX7_passDay_32 (by decide) rfl ?_
  refine g_iadd C dX7_passDay_33 rfl ?_
  refine g_topi (y := 3) (by decide) ?_
  refine g_iald' C (hOl.2) (j := 3) rfl (by omega) (by decide) dX7_passDay_34 rfl ?_
  refine g_iast' C (hOl.2) (j := 2) rfl (by omega) (by decide) dX7_passDay_35 (pc' := 36) rfl (fun h10 e11 o12 => ?_)
  have hOl : OlAt D h10 (a) (s) (upd (upd (rd) (1) (rd (2))) (2) (upd (rd) (1) (rd (2)) (3))) ((dn) + (1)) (nI (f)) := ⟨(o12 _ (by omega)).trans hOl.1, e11⟩
  have hSt : StAt D h10 (s) (tn) (nI (e)) (sl) := ⟨(o12 _ (by omega)).trans hSt.1, (o12 _ (by omega)).trans hSt.2⟩
  have hG4 : Ol4 D h10 a U B M P := hG4.put (by omega) o12
  have hO : ∀ q, (q < a ∨ a + 34 ≤ q) → h10 q = h q := fun q hq => (o12 q (by omega)).trans (hO q hq)
  refine g_iinc C (v := 3) 0 ([(2, .int (3)), (0, .ref (a)), (1, .int (nI (f)))]) dX7_passDay_36 rfl (by decide) (by decide) rfl rfl ?_
  refine g_goto C dX7_passDay_39 (tgt := 17) (by decide) ?_
  refine g_iload_n C 0 dX7_passDay_17 rfl rfl rfl ?_
  refine g_iconst C (v := 4) dX7_passDay_18 (by decide) rfl ?_
  refine g_icmp_ge C dX7_passDay_19 (tgt := 42) (by decide) (pc' := 22) rfl (fun c19 => absurd c19 (by decide)) (fun _ => ?_)
  refine g_aload_n C 1 dX7_passDay_22 rfl rfl rfl ?_
  refine gf_7_9 C (hOl.1) (v := .ref (a + 1)) rfl dX7_passDay_23 rfl ?_
  refine g_iload_n C 0 dX7_passDay_26 rfl rfl rfl ?_
  refine g_aload_n C 1 dX7_passDay_27 rfl rfl rfl ?_
  refine gf_7_9 C (hOl.1) (v := .ref (a + 1)) rfl dX7_passDay_28 rfl ?_
  refine g_iload_n C 0 dX7_passDay_31 rfl rfl rfl ?_
  refine g_iconst C (v := 1) dX7_passDay_32 (by decide) rfl ?_
  refine g_iadd C dX7_passDay_33 rfl ?_
  refine g_topi (y := 4) (by decide) ?_
  refine g_iald' C (hOl.2) (j := 4) rfl (by omega) (by decide) dX7_passDay_34 rfl ?_
  refine g_iast' C (hOl.2) (j := 3) rfl (by omega) (by decide) dX7_passDay_35 (pc' := 36) rfl (fun h13 e14 o15 => ?_)
  have hOl : OlAt D h13 (a) (s) (upd (upd (upd (rd) (1) (rd (2))) (2) (upd (rd) (1) (rd (2)) (3))) (3) (upd (upd (rd) (1) (rd (2))) (2) (upd (rd) (1) (rd (2)) (3)) (4))) ((dn) + (1)) (nI (f)) := ⟨(o15 _ (by omega)).trans hOl.1, e14⟩
  have hSt : StAt D h13 (s) (tn) (nI (e)) (sl) := ⟨(o15 _ (by omega)).trans hSt.1, (o15 _ (by omega)).trans hSt.2⟩
  have hG4 : Ol4 D h13 a U B M P := hG4.put (by omega) o15
  have hO : ∀ q, (q < a ∨ a + 34 ≤ q) → h13 q = h q := fun q hq => (o15 q (by omega)).trans (hO q hq)
  refine g_iinc C (v := 4) 0 ([(2, .int (4)), (0, .ref (a)), (1, .int (nI (f)))]) dX7_passDay_36 rfl (by decide) (by decide) rfl rfl ?_
  refine g_goto C dX7_passDay_39 (tgt := 17) (by decide) ?_
  refine g_iload_n C 0 dX7_passDay_17 rfl rfl rfl ?_
  refine g_iconst C (v := 4) dX7_passDay_18 (by decide) rfl ?_
  refine g_icmp_ge C dX7_passDay_19 (tgt := 42) (by decide) (pc' := 22) rfl (fun _ => ?_) (fun c19 => absurd (by decide) c19)
  refine g_aload_n C 1 dX7_passDay_42 rfl rfl rfl ?_
  refine gf_7_9 C (hOl.1) (v := .ref (a + 1)) rfl dX7_passDay_43 rfl ?_
  refine g_iconst C (v := 4) dX7_passDay_46 (by decide) rfl ?_
  refine g_iconst C (v := -1) dX7_passDay_47 (by decide) rfl ?_
  refine g_iast' C (hOl.2) (j := 4) rfl (by omega) (by decide) dX7_passDay_48 (pc' := 49) rfl (fun h16 e17 o18 => ?_)
  have hOl : OlAt D h16 (a) (s) (upd (upd (upd (upd (rd) (1) (rd (2))) (2) (upd (rd) (1) (rd (2)) (3))) (3) (upd (upd (rd) (1) (rd (2))) (2) (upd (rd) (1) (rd (2)) (3)) (4))) (4) ((-1))) ((dn) + (1)) (nI (f)) := ⟨(o18 _ (by omega)).trans hOl.1, e17⟩
  have hSt : StAt D h16 (s) (tn) (nI (e)) (sl) := ⟨(o18 _ (by omega)).trans hSt.1, (o18 _ (by omega)).trans hSt.2⟩
  have hG4 : Ol4 D h16 a U B M P := hG4.put (by omega) o18
  have hO : ∀ q, (q < a ∨ a + 34 ≤ q) → h16 q = h q := fun q hq => (o18 q (by omega)).trans (hO q hq)
  refine g_aload_n C 1 dX7_passDay_49 rfl rfl rfl ?_
  refine g_callVv C (As := []) (q := (RX7, TX7, 8)) (k_X7_reckon l D b z (by omega) hOl he hSt hG4 hds) hw_7_42 (hOl.1) rfl (by decide) rfl rfl (Nat.le_of_ble_eq_true rfl) ⟨Nat.zero_le _, Nat.zero_le _⟩ dX7_passDay_50 (pc' := 53) rfl ?_
  rintro h19 ⟨⟨U1, B1, M1, P1, hG4, hT⟩, fr20⟩
  have hOl : OlAt D h19 (a) (s) (upd (upd (upd (upd (rd) (1) (rd (2))) (2) (upd (rd) (1) (rd (2)) (3))) (3) (upd (upd (rd) (1) (rd (2))) (2) (upd (rd) (1) (rd (2)) (3)) (4))) (4) ((-1))) ((dn) + (1)) (nI (f)) := hOl.fr (fun q g1 g2 => fr20 q (by omega))
  have hSt : StAt D h19 (s) (tn) (nI (e)) (sl) := hSt.fr (fun q g1 g2 => fr20 q (by omega))
  have hO : ∀ q, (q < a ∨ a + 34 ≤ q) → h19 q = h q := fun q hq => (fr20 q (by omega)).trans (hO q hq)
  exact ret _ _ _ dX7_passDay_53 (⟨⟨_, ⟨hOl, _, _, _, _, hG4, hT⟩, by simp [upd], by simp [upd], by simp [upd], by simp [upd], by simp [upd]⟩, hO⟩)
set_option maxHeartbeats 4000000 in
set_option maxRecDepth 100000 in
theorem k_X7_copyFrom (l : Launch) (D : va_G) (b z : Nat) {h : qH} {a s : Nat} {tn : Nat → Int32} {sl : Int32} {rd : Nat → Int32} {dn w0 : Int32} (hAny : OlAny D h a s rd dn w0) {e : Nat} (he : e < 10) (hSt : StAt D h s tn (nI e) sl) (hds : s + 2 ≤ a ∨ a + 34 ≤ s) {o so : Nat} {ro : Nat → Int32} {dno : Int32} {wno : Nat} (hwo : wno < 3) (hOo : OlAt D h o so ro dno (nI wno)) (hdo : o + 34 ≤ a ∨ a + 34 ≤ o) : qMv l D b yX7_copyFrom cX7_copyFrom 3 4 91 [.ref (a), .ref (o)] h z (fun h' => (∃ rd', OlOK D h' a s tn sl rd' dno wno ∧ ∀ j, j < 5 → rd' j = ro j) ∧ ∀ q, (q < a ∨ a + 34 ≤ q) → h' q = h q) := by
  refine q_v (L := [(0, .ref (a)), (1, .ref (o))]) (own := RX7) (by decide) rfl (Nat.le_of_ble_eq_true rfl) rfl ?_
  intro X C ret
  have hO : ∀ q, (q < a ∨ a + 34 ≤ q) → h q = h q := fun _ _ => rfl
  obtain ⟨hOl, U, B, M, P, hG4⟩ := id hAny
  refine g_aload_n C 0 dX7_copyFrom_0 rfl rfl rfl ?_
  refine g_aload_n C 1 dX7_copyFrom_1 rfl rfl rfl ?_
  refine gf_7_35 C (hOo.1) (v := .int (dno)) rfl dX7_copyFrom_2 rfl ?_
  refine pf_7_35 C (hOl.1) (v := .int (dno)) rfl rfl (Nat.le_of_ble_eq_true rfl) dX7_copyFrom_5 (pc' := 8) rfl (fun h1 e2 o3 => ?_)
  have hOl : OlAt D h1 (a) (s) (rd) (dno) (w0) := ⟨e2, (o3 _ (by omega)).trans hOl.2⟩
  have hOo : OlAt D h1 (o) (so) (ro) (dno) (nI (wno)) := ⟨(o3 _ (by omega)).trans hOo.1, (o3 _ (by omega)).trans hOo.2⟩
  have hSt : StAt D h1 (s) (tn) (nI (e)) (sl) := ⟨(o3 _ (by omega)).trans hSt.1, (o3 _ (by omega)).trans hSt.2⟩
  have hG4 : Ol4 D h1 a U B M P := hG4.put (by omega) o3
  have hO : ∀ q, (q < a ∨ a + 34 ≤ q) → h1 q = h q := fun q hq => (o3 q (by omega)).trans (hO q hq)
  refine g_aload_n C 0 dX7_copyFrom_8 rfl rfl rfl ?_
  refine g_aload_n C 1 dX7_copyFrom_9 rfl rfl rfl ?_
  refine gf_7_39 C (hOo.1) (v := .int (nI (wno))) rfl dX7_copyFrom_10 rfl ?_
  refine pf_7_39 C (hOl.1) (v := .int (nI (wno))) rfl rfl (Nat.le_of_ble_eq_true rfl) dX7_copyFrom_13 (pc' := 16) rfl (fun h4 e5 o6 => ?_)
  have hOl : OlAt D h4 (a) (s) (rd) (dno) (nI (wno)) := ⟨e5, (o6 _ (by omega)).trans hOl.2⟩
  have hOo : OlAt D h4 (o) (so) (ro) (dno) (nI (wno)) := ⟨(o6 _ (by omega)).trans hOo.1, (o6 _ (by omega)).trans hOo.2⟩
  have hSt : StAt D h4 (s) (tn) (nI (e)) (sl) := ⟨(o6 _ (by omega)).trans hSt.1, (o6 _ (by omega)).trans hSt.2⟩
  have hG4 : Ol4 D h4 a U B M P := hG4.put (by omega) o6
  have hO : ∀ q, (q < a ∨ a + 34 ≤ q) → h4 q = h q := fun q hq => (o6 q (by omega)).trans (hO q hq)
  refine g_iconst C (v := 0) dX7_copyFrom_16 (by decide) rfl ?_
  refine g_istore_n C ([(2, .int (0)), (0, .ref (a)), (1, .ref (o))]) dX7_copyFrom_17 rfl (by decide) rfl rfl ?_
  refine g_iload_n C 0 dX7_copyFrom_18 rfl rfl rfl ?_
  refine g_iconst C (v := 4) dX7_copyFrom_19 (by decide) rfl ?_
  refine g_icmp_gt C dX7_copyFrom_20 (tgt := 41) (by decide) (pc' := 23) rfl (fun c20 => absurd c20 (by decide)) (fun _ => ?_)
  refine g_aload_n C 1 dX7_copyFrom_23 rfl rfl rfl ?_
  refine gf_7_9 C (hOl.1) (v := .ref (a + 1)) rfl dX7_copyFrom_24 rfl ?_
  refine g_iload_n C 0 dX7_copyFrom_27 rfl rfl rfl ?_
  refine g_aload_n C 2 dX7_copyFrom_28 rfl rfl rfl ?_
  refine gf_7_9 C (hOo.1) (v := .ref (o + 1)) rfl dX7_copyFrom_29 rfl ?_
  refine g_iload_n C 0 dX7_copyFrom_32 rfl rfl rfl ?_
  refine g_iald' C (hOo.2) (j := 0) rfl (by omega) (by decide) dX7_copyFrom_33 rfl ?_
  refine g_iast' C (hOl.2) (j := 0) rfl (by omega) (by decide) dX7_copyFrom_34 (pc' := 35) rfl (fun h7 e8 o9 => ?_)
  have hOl : OlAt D h7 (a) (s) (upd (rd) (0) (ro (0))) (dno) (nI (wno)) := ⟨(o9 _ (by omega)).trans hOl.1, e8⟩
  have hOo : OlAt D h7 (o) (so) (ro) (dno) (nI (wno)) := ⟨(o9 _ (by omega)).trans hOo.1, (o9 _ (by omega)).trans hOo.2⟩
  have hSt : StAt D h7 (s) (tn) (nI (e)) (sl) := ⟨(o9 _ (by omega)).trans hSt.1, (o9 _ (by omega)).trans hSt.2⟩
  have hG4 : Ol4 D h7 a U B M P := hG4.put (by omega) o9
  have hO : ∀ q, (q < a ∨ a + 34 ≤ q) → h7 q = h q := fun q hq => (o9 q (by omega)).trans (hO q hq)
  refine g_iinc C (v := 1) 0 ([(2, .int (1)), (0, .ref (a)), (1, .ref (o))]) dX7_copyFrom_35 rfl (by decide) (by decide) rfl rfl ?_
  refine g_goto C dX7_copyFrom_38 (tgt := 18) (by decide) ?_
  refine g_iload_n C 0 dX7_copyFrom_18 rfl rfl rfl ?_
  refine g_iconst C (v := 4) dX7_copyFrom_19 (by decide) rfl ?_
  refine g_icmp_gt C dX7_copyFrom_20 (tgt := 41) (by decide) (pc' := 23) rfl (fun c20 => absurd c20 (by decide)) (fun _ => ?_)
  refine g_aload_n C 1 dX7_copyFrom_23 rfl rfl rfl ?_
  refine gf_7_9 C (hOl.1) (v := .ref (a + 1)) rfl dX7_copyFrom_24 rfl ?_
  refine g_iload_n C 0 dX7_copyFrom_27 rfl rfl rfl ?_
  refine g_aload_n C 2 dX7_copyFrom_28 rfl rfl rfl ?_
  refine gf_7_9 C (hOo.1) (v := .ref (o + 1)) rfl dX7_copyFrom_29 rfl ?_
  refine g_iload_n C 0 dX7_copyFrom_32 rfl rfl rfl ?_
  refine g_iald' C (hOo.2) (j := 1) rfl (by omega) (by decide) dX7_copyFrom_33 rfl ?_
  refine g_iast' C (hOl.2) (j := 1) rfl (by omega) (by decide) dX7_copyFrom_34 (pc' := 35) rfl (fun h10 e11 o12 => ?_)
  have hOl : OlAt D h10 (a) (s) (upd (upd (rd) (0) (ro (0))) (1) (ro (1))) (dno) (nI (wno)) := ⟨(o12 _ (by omega)).trans hOl.1, e11⟩
  have hOo : OlAt D h10 (o) (so) (ro) (dno) (nI (wno)) := ⟨(o12 _ (by omega)).trans hOo.1, (o12 _ (by omega)).trans hOo.2⟩
  have hSt : StAt D h10 (s) (tn) (nI (e)) (sl) := ⟨(o12 _ (by omega)).trans hSt.1, (o12 _ (by omega)).trans hSt.2⟩
  have hG4 : Ol4 D h10 a U B M P := hG4.put (by omega) o12
  have hO : ∀ q, (q < a ∨ a + 34 ≤ q) → h10 q = h q := fun q hq => (o12 q (by omega)).trans (hO q hq)
  refine g_iinc C (v := 2) 0 ([(2, .int (2)), (0, .ref (a)), (1, .ref (o))]) dX7_copyFrom_35 rfl (by decide) (by decide) rfl rfl ?_
  refine g_goto C dX7_copyFrom_38 (tgt := 18) (by decide) ?_
  refine g_iload_n C 0 dX7_copyFrom_18 rfl rfl rfl ?_
  refine g_iconst C (v := 4) dX7_copyFrom_19 (by decide) rfl ?_
  refine g_icmp_gt C dX7_copyFrom_20 (tgt := 41) (by decide) (pc' := 23) rfl (fun c20 => absurd c20 (by decide)) (fun _ => ?_)
  refine g_aload_n C 1 dX7_copyFrom_23 rfl rfl rfl ?_
  refine gf_7_9 C (hOl.1) (v := .ref (a + 1)) rfl dX7_copyFrom_24 rfl ?_
  refine g_iload_n C 0 dX7_copyFrom_27 rfl rfl rfl ?_
  refine g_aload_n C 2 dX7_copyFrom_28 rfl rfl rfl ?_
  refine gf_7_9 C (hOo.1) (v := .ref (o + 1)) rfl dX7_copyFrom_29 rfl ?_
  refine g_iload_n C 0 dX7_copyFrom_32 rfl rfl rfl ?_
  refine g_iald' C (hOo.2) (j := 2) rfl (by omega) (by decide) dX7_copyFrom_33 rfl ?_
  refine g_iast' C (hOl.2) (j := 2) rfl (by omega) (by decide) dX7_copyFrom_34 (pc' := 35) rfl (fun h13 e14 o15 => ?_)
  have hOl : OlAt D h13 (a) (s) (upd (upd (upd (rd) (0) (ro (0))) (1) (ro (1))) (2) (ro (2))) (dno) (nI (wno)) := ⟨(o15 _ (by omega)).trans hOl.1, e14⟩
  have hOo : OlAt D h13 (o) (so) (ro) (dno) (nI (wno)) := ⟨(o15 _ (by omega)).trans hOo.1, (o15 _ (by omega)).trans hOo.2⟩
  have hSt : StAt D h13 (s) (tn) (nI (e)) (sl) := ⟨(o15 _ (by omega)).trans hSt.1, (o15 _ (by omega)).trans hSt.2⟩
  have hG4 : Ol4 D h13 a U B M P := hG4.put (by omega) o15
  have hO : ∀ q, (q < a ∨ a + 34 ≤ q) → h13 q = h q := fun q hq => (o15 q (by omega)).trans (hO q hq)
  refine g_iinc C (v := 3) 0 ([(2, .int (3)), (0, .ref (a)), (1, .ref (o))]) dX7_copyFrom_35 rfl (by decide) (by decide) rfl rfl ?_
  refine g_goto C dX7_copyFrom_38 (tgt := 18) (by decide) ?_
  refine g_iload_n C 0 dX7_copyFrom_18 rfl rfl rfl ?_
  refine g_iconst C (v := 4) dX7_copyFrom_19 (by decide) rfl ?_
  refine g_icmp_gt C dX7_copyFrom_20 (tgt := 41) (by decide) (pc' := 23) rfl (fun c20 => absurd c20 (by decide)) (fun _ => ?_)
  refine g_aload_n C 1 dX7_copyFrom_23 rfl rfl rfl ?_
  refine gf_7_9 C (hOl.1) (v := .ref (a + 1)) rfl dX7_copyFrom_24 rfl ?_
  refine g_iload_n C 0 dX7_copyFrom_27 rfl rfl rfl ?_
  refine g_aload_n C 2 dX7_copyFrom_28 rfl rfl rfl ?_
  refine gf_7_9 C (hOo.1) (v := .ref (o + 1)) rfl dX7_copyFrom_29 rfl ?_
  refine g_iload_n C 0 dX7_copyFrom_32 rfl rfl rfl ?_
  refine g_iald' C (hOo.2) (j := 3) rfl (by omega) (by decide) dX7_copyFrom_33 rfl ?_
  refine g_iast' C (hOl.2) (j := 3) rfl (by omega) (by decide) dX7_copyFrom_34 (pc' := 35) rfl (fun h16 e17 o18 => ?_)
  have hOl : OlAt D h16 (a) (s) (upd (upd (upd (upd (rd) (0) (ro (0))) (1) (ro (1))) (2) (ro (2))) (3) (ro (3))) (dno) (nI (wno)) := ⟨(o18 _ (by omega)).trans hOl.1, e17⟩
  have hOo : OlAt D h16 (o) (so) (ro) (dno) (nI (wno)) := ⟨(o18 _ (by omega)).trans hOo.1, (o18 _ (by omega)).trans hOo.2⟩
  have hSt : StAt D h16 (s) (tn) (nI (e)) (sl) := ⟨(o18 _ (by omega)).trans hSt.1, (o18 _ (by omega)).trans hSt.2⟩
  have hG4 : Ol4 D h16 a U B M P := hG4.put (by omega) o18
  have hO : ∀ q, (q < a ∨ a + 34 ≤ q) → h16 q = h q := fun q hq => (o18 q (by omega)).trans (hO q hq)
  refine g_iinc C (v := 4) 0 ([(2, .int (4)), (0, .ref (a)), (1, .ref (o))]) dX7_copyFrom_35 rfl (by decide) (by decide) rfl rfl ?_
  refine g_goto C dX7_copyFrom_38 (tgt := 18) (by decide) ?_
  refine g_iload_n C 0 dX7_copyFrom_18 rfl rfl rfl ?_
  refine g_iconst C (v := 4) dX7_copyFrom_19 (by decide) rfl ?_
  refine g_icmp_gt C dX7_copyFrom_20 (tgt := 41) (by decide) (pc' := 23) rfl (fun c20 => absurd c20 (by decide)) (fun _ => ?_)
  refine g_aload_n C 1 dX7_copyFrom_23 rfl rfl rfl ?_
  refine gf_7_9 C (hOl.1) (v := .ref (a + 1)) rfl dX7_copyFrom_24 rfl ?_
  refine g_iload_n C 0 dX7_copyFrom_27 rfl rfl rfl ?_
  refine g_aload_n C 2 dX7_copyFrom_28 rfl rfl rfl ?_
  refine gf_7_9 C (hOo.1) (v := .ref (o + 1)) rfl dX7_copyFrom_29 rfl ?_
  refine g_iload_n C 0 dX7_copyFrom_32 rfl rfl rfl ?_
  refine g_iald' C (hOo.2) (j := 4) rfl (by omega) (by decide) dX7_copyFrom_33 rfl ?_
  refine g_iast' C (hOl.2) (j := 4) rfl (by omega) (by decide) dX7_copyFrom_34 (pc' := 35) rfl (fun h19 e20 o21 => ?_)
  have hOl : OlAt D h19 (a) (s) (upd (upd (upd (upd (upd (rd) (0) (ro (0))) (1) (ro (1))) (2) (ro (2))) (3) (ro (3))) (4) (ro (4))) (dno) (nI (wno)) := ⟨(o21 _ (by omega)).trans hOl.1, e20⟩
  have hOo : OlAt D h19 (o) (so) (ro) (dno) (nI (wno)) := ⟨(o21 _ (by omega)).trans hOo.1, (o21 _ (by omega)).trans hOo.2⟩
  have hSt : StAt D h19 (s) (tn) (nI (e)) (sl) := ⟨(o21 _ (by omega)).trans hSt.1, (o21 _ (by omega)).trans hSt.2⟩
  have hG4 : Ol4 D h19 a U B M P := hG4.put (by omega) o21
  have hO : ∀ q, (q < a ∨ a + 34 ≤ q) → h19 q = h q := fun q hq => (o21 q (by omega)).trans (hO q hq)
  refine g_iinc C (v := 5) 0 ([(2, .int (5)), (0, .ref (a)), (1, .ref (o))]) dX7_copyFrom_35 rfl (by decide) (by decide) rfl rfl ?_
  refine g_goto C dX7_copyFrom_38 (tgt := 18) (by decide) ?_
  refine g_iload_n C 0 dX7_copyFrom_18 rfl rfl rfl ?_
  refine g_iconst C (v := 4) dX7_copyFrom_19 (by decide) rfl ?_
  refine g_icmp_gt C dX7_copyFrom_20 (tgt := 41) (by decide) (pc' := 23) rfl (fun _ => ?_) (fun c20 => absurd (by decide) c20)
  refine g_aload_n C 1 dX7_copyFrom_41 rfl rfl rfl ?_
  refine g_callVv C (As := []) (q := (RX7, TX7, 8)) (k_X7_reckon l D b z (by omega) hOl he hSt hG4 hds) hw_7_42 (hOl.1) rfl (by decide) rfl rfl (Nat.le_of_ble_eq_true rfl) ⟨Nat.zero_le _, Nat.zero_le _⟩ dX7_copyFrom_42 (pc' := 45) rfl ?_
  rintro h22 ⟨⟨U1, B1, M1, P1, hG4, hT⟩, fr23⟩
  have hOl : OlAt D h22 (a) (s) (upd (upd (upd (upd (upd (rd) (0) (ro (0))) (1) (ro (1))) (2) (ro (2))) (3) (ro (3))) (4) (ro (4))) (dno) (nI (wno)) := hOl.fr (fun q g1 g2 => fr23 q (by omega))
  have hOo : OlAt D h22 (o) (so) (ro) (dno) (nI (wno)) := hOo.fr (fun q g1 g2 => fr23 q (by omega))
  have hSt : StAt D h22 (s) (tn) (nI (e)) (sl) := hSt.fr (fun q g1 g2 => fr23 q (by omega))
  have hO : ∀ q, (q < a ∨ a + 34 ≤ q) → h22 q = h q := fun q hq => (fr23 q (by omega)).trans (hO q hq)
  exact ret _ _ _ dX7_copyFrom_45 (⟨⟨_, ⟨hOl, _, _, _, _, hG4, hT⟩, lt5 (by simp [upd]) (by simp [upd]) (by simp [upd]) (by simp [upd]) (by simp [upd])⟩, hO⟩)
set_option maxHeartbeats 4000000 in
set_option maxRecDepth 100000 in
theorem k_X7_tell (l : Launch) (D : va_G) (b z : Nat) {h : qH} {a s : Nat} {tn : Nat → Int32} {sl : Int32} {rd : Nat → Int32} {dn : Int32} {wn : Nat} (hwn : wn < 3) (hAny : OlAny D h a s rd dn (nI wn)) {e : Nat} (he : 1 ≤ e ∧ e ≤ 4) (hSt : StAt D h s tn (nI e) sl) (hds : s + 2 ≤ a ∨ a + 34 ≤ s) (x : Int32) : qMi l D b yX7_tell cX7_tell 4 .boolean 4 91 [.ref (a), .int (x)] h z (fun r h' => ((¬ allF (F_step tn sl (upd rd e x)) wn ≤ 0 ∧ r = 1 ∧ OlOK D h' a s tn sl (upd rd e x) dn wn) ∨ (allF (F_step tn sl (upd rd e x)) wn ≤ 0 ∧ r = 0 ∧ OlOK D h' a s tn sl rd dn wn)) ∧ ∀ q, (q < a ∨ a + 34 ≤ q) → h' q = h q) := by
  refine q_i (L := [(0, .ref (a)), (1, .int (x))]) (own := RX7) (by decide) rfl (Nat.le_of_ble_eq_true rfl) rfl ?_
  intro X C ret
  have hO : ∀ q, (q < a ∨ a + 34 ≤ q) → h q = h q := fun _ _ => rfl
  obtain ⟨hOl, U, B, M, P, hG4⟩ := id hAny
  replace he : e < 10 ∧ 1 ≤ e ∧ e ≤ 4 := ⟨by omega, he⟩
  obtain ⟨he, he2⟩ := he
  refine g_aload_n C 0 dX7_tell_0 rfl rfl rfl ?_
  refine gf_7_31 C (hOl.1) (v := .ref (s)) rfl dX7_tell_1 rfl ?_
  refine gf_7_45 C (hSt.1) (v := .int (nI (e))) rfl dX7_tell_4 rfl ?_
  refine g_istore_n C ([(2, .int (nI (e))), (0, .ref (a)), (1, .int (x))]) dX7_tell_7 rfl (by decide) rfl rfl ?_
  refine g_iload_n C 0 dX7_tell_8 rfl rfl rfl ?_
  refine g_iconst C (v := 1) dX7_tell_9 (by decide) rfl ?_
  refine g_icmp_lt C dX7_tell_10 (tgt := 18) (by decide) (pc' := 13) rfl ?_ ?_
  · intro c10
    replace c10 := (nI_ltI (a := e) (b := 1) (by omega) (by omega)).mp c10
    omega
  · intro c10
    replace c10 := (not_congr (nI_ltI (a := e) (b := 1) (by omega) (by omega))).mp c10
    refine g_iload_n C 0 dX7_tell_13 rfl rfl rfl ?_
    refine g_iconst C (v := 4) dX7_tell_14 (by decide) rfl ?_
    refine g_icmp_le C dX7_tell_15 (tgt := 20) (by decide) (pc' := 18) rfl ?_ ?_
    · intro c15
      replace c15 := (nI_leI (a := e) (b := 4) (by omega) (by omega)).mp c15
      refine g_aload_n C 1 dX7_tell_20 rfl rfl rfl ?_
      refine gf_7_9 C (hOl.1) (v := .ref (a + 1)) rfl dX7_tell_21 rfl ?_
      refine g_iload_n C 0 dX7_tell_24 rfl rfl rfl ?_
      refine g_iald' C (hOl.2) (j := e) rfl (by omega) (by decide) dX7_tell_25 rfl ?_
      refine g_istore_n C ([(3, .int (rd (e))), (2, .int (nI (e))), (0, .ref (a)), (1, .int (x))]) dX7_tell_26 rfl (by decide) rfl rfl ?_
      refine g_aload_n C 2 dX7_tell_27 rfl rfl rfl ?_
      refine gf_7_9 C (hOl.1) (v := .ref (a + 1)) rfl dX7_tell_28 rfl ?_
      refine g_iload_n C 1 dX7_tell_31 rfl rfl rfl ?_
      refine g_iload_n C 3 dX7_tell_32 rfl rfl rfl ?_
      refine g_iast' C (hOl.2) (j := e) rfl (by omega) (by decide) dX7_tell_33 (pc' := 34) rfl (fun h1 e2 o3 => ?_)
      have hOl : OlAt D h1 (a) (s) (upd (rd) (e) (x)) (dn) (nI (wn)) := ⟨(o3 _ (by omega)).trans hOl.1, e2⟩
      have hSt : StAt D h1 (s) (tn) (nI (e)) (sl) := ⟨(o3 _ (by omega)).trans hSt.1, (o3 _ (by omega)).trans hSt.2⟩
      have hG4 : Ol4 D h1 a U B M P := hG4.put (by omega) o3
      have hO : ∀ q, (q < a ∨ a + 34 ≤ q) → h1 q = h q := fun q hq => (o3 q (by omega)).trans (hO q hq)
      refine g_aload_n C 2 dX7_tell_34 rfl rfl rfl ?_
      refine g_callVv C (As := []) (q := (RX7, TX7, 8)) (k_X7_reckon l D b z hwn hOl he hSt hG4 hds) hw_7_42 (hOl.1) rfl (by decide) rfl rfl (Nat.le_of_ble_eq_true rfl) ⟨Nat.zero_le _, Nat.zero_le _⟩ dX7_tell_35 (pc' := 38) rfl ?_
      rintro h4 ⟨⟨U1, B1, M1, P1, hG4, hT⟩, fr5⟩
      have hOl : OlAt D h4 (a) (s) (upd (rd) (e) (x)) (dn) (nI (wn)) := hOl.fr (fun q g1 g2 => fr5 q (by omega))
      have hSt : StAt D h4 (s) (tn) (nI (e)) (sl) := hSt.fr (fun q g1 g2 => fr5 q (by omega))
      have hO : ∀ q, (q < a ∨ a + 34 ≤ q) → h4 q = h q := fun q hq => (fr5 q (by omega)).trans (hO q hq)
      refine g_aload_n C 2 dX7_tell_38 rfl rfl rfl ?_
      have hOK : OlOK D h4 a s tn sl (upd (rd) (e) (x)) dn wn := ⟨hOl, U1, B1, M1, P1, hG4, hT⟩
      refine g_callVl C (As := []) (q := (RX7, TX7, 8)) (k_X7_allOdds l D b z hwn hOK) hw_7_50 (hOl.1) rfl (by decide) rfl rfl (Nat.le_of_ble_eq_true rfl) ⟨Nat.zero_le _, Nat.zero_le _⟩ dX7_tell_39 (pc' := 42) rfl ?_
      rintro r6 h9 ⟨er, e9⟩
      subst h9; subst er
      refine g_lconst C (v := 0) dX7_tell_42 (by decide) rfl ?_
      refine g_lcmp C dX7_tell_43 rfl ?_
      refine g_if_le C dX7_tell_44 (tgt := 49) (by decide) (pc' := 47) rfl ?_ ?_
      · intro c44
        replace c44 := (lg_cmp_le _ _).mp c44
        refine g_aload_n C 2 dX7_tell_49 rfl rfl rfl ?_
        refine gf_7_9 C (hOl.1) (v := .ref (a + 1)) rfl dX7_tell_50 rfl ?_
        refine g_iload_n C 1 dX7_tell_53 rfl rfl rfl ?_
        refine g_iload_n C 0 dX7_tell_54 rfl rfl rfl ?_
        refine g_iast' C (hOl.2) (j := e) rfl (by omega) (by decide) dX7_tell_55 (pc' := 56) rfl (fun h7 e8 o9 => ?_)
        have hOl : OlAt D h7 (a) (s) (upd (upd (rd) (e) (x)) (e) (rd (e))) (dn) (nI (wn)) := ⟨(o9 _ (by omega)).trans hOl.1, e8⟩
        have hSt : StAt D h7 (s) (tn) (nI (e)) (sl) := ⟨(o9 _ (by omega)).trans hSt.1, (o9 _ (by omega)).trans hSt.2⟩
        have hG4 : Ol4 D h7 a U1 B1 M1 P1 := hG4.put (by omega) o9
        have hO : ∀ q, (q < a ∨ a + 34 ≤ q) → h7 q = h q := fun q hq => (o9 q (by omega)).trans (hO q hq)
        refine g_aload_n C 2 dX7_tell_56 rfl rfl rfl ?_
        refine g_callVv C (As := []) (q := (RX7, TX7, 8)) (k_X7_reckon l D b z hwn hOl he hSt hG4 hds) hw_7_42 (hOl.1) rfl (by decide) rfl rfl (Nat.le_of_ble_eq_true rfl) ⟨Nat.zero_le _, Nat.zero_le _⟩ dX7_tell_57 (pc' := 60) rfl ?_
        rintro h10 ⟨⟨U2, B2, M2, P2, hG4, hT⟩, fr11⟩
        have hOl : OlAt D h10 (a) (s) (upd (upd (rd) (e) (x)) (e) (rd (e))) (dn) (nI (wn)) := hOl.fr (fun q g1 g2 => fr11 q (by omega))
        have hSt : StAt D h10 (s) (tn) (nI (e)) (sl) := hSt.fr (fun q g1 g2 => fr11 q (by omega))
        have hO : ∀ q, (q < a ∨ a + 34 ≤ q) → h10 q = h q := fun q hq => (fr11 q (by omega)).trans (hO q hq)
        refine g_iconst C (v := 0) dX7_tell_60 (by decide) rfl ?_
        exact ret _ _ _ _ dX7_tell_61 rfl (⟨Or.inr ⟨c44, rfl, by have h2 : OlOK D h10 a s tn sl (upd (upd (rd) (e) (x)) (e) (rd (e))) dn wn := ⟨hOl, U2, B2, M2, P2, hG4, hT⟩; rw [upd_back] at h2; exact h2⟩, hO⟩)
      · intro c44
        replace c44 := (not_congr (lg_cmp_le _ _)).mp c44
        refine g_iconst C (v := 1) dX7_tell_47 (by decide) rfl ?_
        exact ret _ _ _ _ dX7_tell_48 rfl (⟨Or.inl ⟨c44, rfl, hOl, _, _, _, _, hG4, hT⟩, hO⟩)
    · intro c15
      replace c15 := (not_congr (nI_leI (a := e) (b := 4) (by omega) (by omega))).mp c15
      omega

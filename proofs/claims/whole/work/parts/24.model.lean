/-! the reference model: its cells -/
def kdS (σ : sg) : Nat → Int32 := fun i => nI (gA σ 9 i)
def MdO (h : qH) (m : Nat) (σ : sg) (s18 : Int64) (s19 s20 s23 s24 : Int32) (s35 : Int64) : Prop := h m = some (.inr (12, [.int (nI (gN σ 0)), .int (nI (gN σ 1)), .ref (m + 1), .int (nI (gN σ 3)), .int (nI (gN σ 4)), .int (gI σ 5), .int (nI (gN σ 6)), .ref (m + 2), .int (nI (gN σ 8)), .ref (m + 3), .ref (m + 4), .ref (m + 5), .ref (m + 6), .int (nI (gN σ 13)), .ref (m + 7), .ref (m + 8), .int (nI (gN σ 16)), .ref (m + 9), .long (s18), .int (s19), .int (s20), .ref (m + 10), .ref (m + 11), .int (s23), .int (s24), .int (nI (gN σ 25)), .int (nI (gN σ 26)), .int (gI σ 27), .int (nI (gN σ 28)), .int (nI (gN σ 29)), .int (nI (gN σ 30)), .ref (m + 12), .ref (m + 13), .ref (m + 14), .ref (m + 15), .long (s35)]))
def MdR (D : va_G) (h : qH) (m : Nat) (σ : sg) (f21 f22 : Nat → Int32) : Prop := h (m + 1) = some (cI D 9 (tnS σ)) ∧ h (m + 2) = some (cI D 5 (gB σ 7)) ∧ h (m + 3) = some (cI D 4 (kdS σ)) ∧ h (m + 4) = some (cI D 4 (gB σ 10)) ∧ h (m + 5) = some (cI D 4 (gB σ 11)) ∧ h (m + 6) = some (cI D 4 (gB σ 12)) ∧ h (m + 7) = some (cI D 12 (gB σ 14)) ∧ h (m + 8) = some (cI D 12 (gB σ 15)) ∧ h (m + 9) = some (cB D 16 (gB σ 17)) ∧ h (m + 10) = some (cI D 5 (f21)) ∧ h (m + 11) = some (cI D 5 (f22)) ∧ h (m + 12) = some (cI D 5 (gB σ 31)) ∧ h (m + 13) = some (cI D 4 (gB σ 32)) ∧ h (m + 14) = some (cI D 12 (gB σ 33)) ∧ h (m + 15) = some (cI D 12 (gB σ 34))
theorem MdR.fr {D : va_G} {h h1 : qH} {m : Nat} {σ : sg} {f21 f22 : Nat → Int32} (H : MdR D h m σ f21 f22) (o : ∀ q, m < q → q < m + 16 → h1 q = h q) : MdR D h1 m σ f21 f22 := ⟨(o _ (by omega) (by omega)).trans H.1, (o _ (by omega) (by omega)).trans H.2.1, (o _ (by omega) (by omega)).trans H.2.2.1, (o _ (by omega) (by omega)).trans H.2.2.2.1, (o _ (by omega) (by omega)).trans H.2.2.2.2.1, (o _ (by omega) (by omega)).trans H.2.2.2.2.2.1, (o _ (by omega) (by omega)).trans H.2.2.2.2.2.2.1, (o _ (by omega) (by omega)).trans H.2.2.2.2.2.2.2.1, (o _ (by omega) (by omega)).trans H.2.2.2.2.2.2.2.2.1, (o _ (by omega) (by omega)).trans H.2.2.2.2.2.2.2.2.2.1, (o _ (by omega) (by omega)).trans H.2.2.2.2.2.2.2.2.2.2.1, (o _ (by omega) (by omega)).trans H.2.2.2.2.2.2.2.2.2.2.2.1, (o _ (by omega) (by omega)).trans H.2.2.2.2.2.2.2.2.2.2.2.2.1, (o _ (by omega) (by omega)).trans H.2.2.2.2.2.2.2.2.2.2.2.2.2.1, (o _ (by omega) (by omega)).trans H.2.2.2.2.2.2.2.2.2.2.2.2.2.2⟩
theorem upd_nI {f : Nat → Nat} {j v : Nat} : upd (fun i => nI (f i)) j (nI v) = fun i => nI (va_up f j v i) := by funext i; simp only [upd, va_up]; split <;> rfl
set_option maxHeartbeats 4000000 in
set_option maxRecDepth 100000 in
theorem k_X12_within (l : Launch) (D : va_G) (b z : Nat) (h : qH) (x lo hi : Int32) : qMi l D b yX12_within cX12_within 3 .boolean 0 0 [.int (x), .int (lo), .int (hi)] h z (fun r h' => ((r = 1 ∧ (¬ x < lo ∧ ¬ hi < x)) ∨ (r = 0 ∧ ¬ (¬ x < lo ∧ ¬ hi < x))) ∧ h' = h) := by
  refine q_i (L := [(0, .int (x)), (1, .int (lo)), (2, .int (hi))]) (own := RX12) (by decide) rfl (Nat.le_of_ble_eq_true rfl) rfl ?_
  intro X C ret
  refine g_iload_n C 0 dX12_within_0 rfl rfl rfl ?_
  refine g_iload_n C 1 dX12_within_1 rfl rfl rfl ?_
  refine g_icmp_lt C dX12_within_2 (tgt := 14) (by decide) (pc' := 5) rfl ?_ ?_
  · intro c2
    refine g_iconst C (v := 0) dX12_within_14 (by decide) rfl ?_
    exact ret _ _ _ _ dX12_within_15 rfl (⟨Or.inr ⟨rfl, fun g => g.1 c2⟩, rfl⟩)
  · intro c2
    refine g_iload_n C 0 dX12_within_5 rfl rfl rfl ?_
    refine g_iload_n C 2 dX12_within_6 rfl rfl rfl ?_
    refine g_icmp_gt C dX12_within_7 (tgt := 14) (by decide) (pc' := 10) rfl ?_ ?_
    · intro c7
      refine g_iconst C (v := 0) dX12_within_14 (by decide) rfl ?_
      exact ret _ _ _ _ dX12_within_15 rfl (⟨Or.inr ⟨rfl, fun g => g.2 c7⟩, rfl⟩)
    · intro c7
      refine g_iconst C (v := 1) dX12_within_10 (by decide) rfl ?_
      refine g_goto C dX12_within_11 (tgt := 15) (by decide) ?_
      exact ret _ _ _ _ dX12_within_15 rfl (⟨Or.inl ⟨rfl, c2, c7⟩, rfl⟩)
theorem wit_in {lo hi : Nat} {x : Int32} (hl : lo < 2 ^ 31) (hh : hi < 2 ^ 31) : (¬ x < nI lo ∧ ¬ nI hi < x) ↔ inP lo hi x := by
  constructor
  · intro ⟨h1, h2⟩
    have h0 : ¬ x < 0 := fun g => h1 (by
      have g1 := Int32.lt_iff_toInt_lt.mp g
      have e0 : (0 : Int32).toInt = 0 := by decide
      exact Int32.lt_iff_toInt_lt.mpr (by rw [nI_toInt hl]; omega))
    obtain ⟨j, hj, rfl⟩ := nI_of h0
    exact ⟨j, rfl, by have := (not_congr (nI_ltI hj hl)).mp h1; omega, by have := (not_congr (nI_ltI hh hj)).mp h2; omega⟩
  · rintro ⟨j, rfl, h1, h2⟩
    exact ⟨fun g => by have := (nI_ltI (by omega) hl).mp g; omega, fun g => by have := (nI_ltI hh (by omega)).mp g; omega⟩
set_option maxHeartbeats 4000000 in
set_option maxRecDepth 100000 in
theorem k_X12_isWeather (l : Launch) (D : va_G) (b z : Nat) (h : qH) (x : Int32) : qMi l D b yX12_isWeather cX12_isWeather 1 .boolean 1 22 [.int (x)] h z (fun r h' => ((r = 1 ∧ inP 0 2 x) ∨ (r = 0 ∧ ¬ inP 0 2 x)) ∧ h' = h) := by
  refine q_i (L := [(0, .int (x))]) (own := RX12) (by decide) rfl (Nat.le_of_ble_eq_true rfl) rfl ?_
  intro X C ret
  refine g_iload_n C 0 dX12_isWeather_0 rfl rfl rfl ?_
  refine g_iconst C (v := 0) dX12_isWeather_1 (by decide) rfl ?_
  refine g_iconst C (v := 2) dX12_isWeather_2 (by decide) rfl ?_
  refine g_callSi C (As := [.int (x), .int (0), .int (2)]) (k_X12_within l D b z h (x) (0) (2)) hw_12_56 (by decide) rfl rfl (Nat.le_of_ble_eq_true rfl) ⟨Nat.zero_le _, Nat.zero_le _⟩ dX12_isWeather_3 (pc' := 6) rfl ?_
  rintro r1 h9 ⟨⟨er, hp3⟩ | ⟨er, hp3⟩, e9⟩
  · subst h9; subst er
    have hp3 := (wit_in (lo := 0) (hi := 2) (x := x) (by decide) (by decide)).mp hp3
    exact ret _ _ _ _ dX12_isWeather_6 rfl (⟨Or.inl ⟨rfl, hp3⟩, rfl⟩)
  · subst h9; subst er
    have hp3 := (not_congr (wit_in (lo := 0) (hi := 2) (x := x) (by decide) (by decide))).mp hp3
    exact ret _ _ _ _ dX12_isWeather_6 rfl (⟨Or.inr ⟨rfl, hp3⟩, rfl⟩)
def dvF (c : Nat) : Nat → Nat
  | 0 => c
  | n + 1 => dvF c n / 3
theorem dvF_le (c n : Nat) : dvF c n ≤ c := by
  induction n with
  | zero => exact Nat.le_refl _
  | succ n ih => simp only [dvF]; omega
def wIn (c a : Nat) : Nat := dvF c (6 - a) % 3
theorem wIn_lt (c a : Nat) : wIn c a < 3 := Nat.mod_lt _ (by decide)
set_option maxHeartbeats 4000000 in
set_option maxRecDepth 100000 in
theorem k_X12_weatherIn (l : Launch) (D : va_G) (b z : Nat) (h : qH) {c a : Nat} (hc : c < 729) (ha : a ≤ 6) : qMi l D b yX12_weatherIn cX12_weatherIn 4 .int 0 0 [.int (nI (c)), .int (nI (a))] h z (fun r h' => r = nI (wIn c a) ∧ h' = h) := by
  refine q_i (L := [(0, .int (nI (c))), (1, .int (nI (a)))]) (own := RX12) (by decide) rfl (Nat.le_of_ble_eq_true rfl) rfl ?_
  intro X C ret
  refine g_iload_n C 0 dX12_weatherIn_0 rfl rfl rfl ?_
  refine g_istore_n C ([(2, .int (nI (c))), (0, .int (nI (c))), (1, .int (nI (a)))]) dX12_weatherIn_1 rfl (by decide) rfl rfl ?_
  refine g_iload_n C 2 dX12_weatherIn_2 rfl rfl rfl ?_
  refine g_istore_n C ([(3, .int (nI (a))), (2, .int (nI (c))), (0, .int (nI (c))), (1, .int (nI (a)))]) dX12_weatherIn_3 rfl (by decide) rfl rfl ?_
  have loop4 : ∀ (N : Nat) (k : Nat) (l0 : Nat), 6 - k < N → (a ≤ k) → (k ≤ 6) → (l0 = dvF c (k - a)) → (l0 < 729) → qG X 0 0 z h 4 [(3, .int (nI (k))), (2, .int (nI (l0))), (0, .int (nI (c))), (1, .int (nI (a)))] [] := by
    intro N
    induction N with
    | zero => intro k l0 hm; exact absurd hm (Nat.not_lt_zero _)
    | succ N ih4 =>
      intro k l0 hm hk1 hk2 hl hl9
      refine g_iload_n C 0 dX12_weatherIn_4 rfl rfl rfl ?_
      refine g_bipush C (v := 6) dX12_weatherIn_5 (by decide) rfl ?_
      refine g_icmp_ge C dX12_weatherIn_7 (tgt := 20) (by decide) (pc' := 10) rfl ?_ ?_
      · intro c7
        replace c7 := (nI_leI (a := 6) (b := k) (by omega) (by omega)).mp c7
        refine g_iload_n C 1 dX12_weatherIn_20 rfl rfl rfl ?_
        refine g_iconst C (v := 3) dX12_weatherIn_21 (by decide) rfl ?_
        refine g_irem C dX12_weatherIn_22 (by decide) rfl ?_
        refine g_topi (y := nI (l0 % 3)) (rem_nI (a := l0) (d := 3) (by omega) (by decide) (by decide)) ?_
        exact ret _ _ _ _ dX12_weatherIn_23 rfl (⟨by rw [hl, show k = 6 by omega]; rfl, rfl⟩)
      · intro c7
        replace c7 := (not_congr (nI_leI (a := 6) (b := k) (by omega) (by omega))).mp c7
        refine g_iload_n C 1 dX12_weatherIn_10 rfl rfl rfl ?_
        refine g_iconst C (v := 3) dX12_weatherIn_11 (by decide) rfl ?_
        refine g_idiv C dX12_weatherIn_12 (by decide) rfl ?_
        refine g_topi (y := nI (l0 / 3)) (pk_div (d := 3) (by omega) (by decide) (by decide)) ?_
        refine g_istore_n C ([(2, .int (nI (l0 / 3))), (3, .int (nI (k))), (0, .int (nI (c))), (1, .int (nI (a)))]) dX12_weatherIn_13 rfl (by decide) rfl rfl ?_
        refine g_iinc C (v := nI (k + 1)) 1 ([(3, .int (nI (k + 1))), (2, .int (nI (l0 / 3))), (0, .int (nI (c))), (1, .int (nI (a)))]) dX12_weatherIn_14 rfl (nI_1 _) (by decide) rfl rfl ?_
        refine g_goto C dX12_weatherIn_17 (tgt := 4) (by decide) ?_
        exact ih4 (k + 1) (l0 / 3) (by omega) (by omega) (by omega) (by rw [show k + 1 - a = (k - a) + 1 by omega]; show l0 / 3 = dvF c (k - a) / 3; rw [hl]) (by omega)
  exact loop4 _ (a) (c) (Nat.lt_succ_self _) (Nat.le_refl _) (by omega) (by rw [Nat.sub_self]; rfl) (by omega)
set_option maxHeartbeats 4000000 in
set_option maxRecDepth 100000 in
theorem k_X12_tells (l : Launch) (D : va_G) (b z : Nat) {h : qH} {m : Nat} {σ : sg} {s18 s35 : Int64} {s19 s20 s23 s24 : Int32} {f21 f22 : Nat → Int32} (hM : MdO h m σ s18 s19 s20 s23 s24 s35) (hR : MdR D h m σ f21 f22) (u : Int32) {w : Nat} (hw : w < 3) (hr : ¬ u = -1) : qMi l D b yX12_tells cX12_tells 3 .int 0 0 [.ref (m), .int (u), .int (nI (w))] h z (fun r h' => r = F_fit (nI (gN σ 4)) u w ∧ h' = h) := by
  refine q_i (L := [(0, .ref (m)), (1, .int (u)), (2, .int (nI (w)))]) (own := RX12) (by decide) rfl (Nat.le_of_ble_eq_true rfl) rfl ?_
  intro X C ret
  refine g_iload_n C 1 dX12_tells_0 rfl rfl rfl ?_
  refine g_iload_n C 2 dX12_tells_1 rfl rfl rfl ?_
  refine g_icmp_ne C dX12_tells_2 (tgt := 15) (by decide) (pc' := 5) rfl ?_ ?_
  · intro c2
    refine g_iload_n C 1 dX12_tells_15 rfl rfl rfl ?_
    refine g_iload_n C 2 dX12_tells_16 rfl rfl rfl ?_
    refine g_iconst C (v := 1) dX12_tells_17 (by decide) rfl ?_
    refine g_iadd C dX12_tells_18 rfl ?_
    refine g_topi (y := nI (w + 1)) (nI_add _ _) ?_
    refine g_iconst C (v := 3) dX12_tells_19 (by decide) rfl ?_
    refine g_irem C dX12_tells_20 (by decide) rfl ?_
    refine g_topi (y := nI ((w + 1) % 3)) (rem_nI (a := w + 1) (d := 3) (by omega) (by decide) (by decide)) ?_
    refine g_icmp_ne C dX12_tells_21 (tgt := 31) (by decide) (pc' := 24) rfl ?_ ?_
    · intro c21
      refine g_iconst C (v := 0) dX12_tells_31 (by decide) rfl ?_
      exact ret _ _ _ _ dX12_tells_32 rfl (⟨by unfold F_fit; rw [if_neg hr, if_neg c2, if_neg c21], rfl⟩)
    · intro c21
      refine g_aload_n C 0 dX12_tells_24 rfl rfl rfl ?_
      refine gf_12_79 C (hM) (v := .int (nI (gN σ 4))) rfl dX12_tells_25 rfl ?_
      refine g_goto C dX12_tells_28 (tgt := 32) (by decide) ?_
      exact ret _ _ _ _ dX12_tells_32 rfl (⟨by unfold F_fit; rw [if_neg hr, if_neg c2, if_pos c21], rfl⟩)
  · intro c2
    refine g_bipush C (v := 10) dX12_tells_5 (by decide) rfl ?_
    refine g_aload_n C 0 dX12_tells_7 rfl rfl rfl ?_
    refine gf_12_79 C (hM) (v := .int (nI (gN σ 4))) rfl dX12_tells_8 rfl ?_
    refine g_isub C dX12_tells_11 rfl ?_
    refine g_goto C dX12_tells_12 (tgt := 32) (by decide) ?_
    exact ret _ _ _ _ dX12_tells_32 rfl (⟨by unfold F_fit; rw [if_neg hr, if_pos c2], rfl⟩)
def odB (stp : Nat → Nat → Nat → Int64) (wn : Nat) (wof : Nat → Nat) : Nat → Int64 × Nat
  | 0 => (1, wn)
  | k + 1 => ((odB stp wn wof k).1 * stp (k + 1) (odB stp wn wof k).2 (wof (k + 1)), wof (k + 1))
def odC (σ : sg) (c : Nat) : Int64 := (odB (stS σ) (gN σ 6) (wIn c) 6).1
theorem od_told {σ : sg} {x : Int64} {k v w : Nat} (h1 : 1 ≤ k) (h4 : k ≤ 4) : x * (tnS σ (3 * v + w)).toInt64 * (F_fit (nI (gN σ 4)) (gB σ 7 k) w).toInt64 = x * stS σ k v w := by
  unfold stS F_step F_rdg
  rw [if_pos ⟨h1, h4⟩, show v * 3 + w = 3 * v + w by omega, Int64.mul_assoc]
theorem od_none {σ : sg} {x : Int64} {k v w : Nat} (h : ¬ (1 ≤ k ∧ k ≤ 4) ∨ gB σ 7 k = -1) : x * (tnS σ (3 * v + w)).toInt64 * 1 = x * stS σ k v w := by
  unfold stS F_step F_rdg
  have e : (if 1 ≤ k ∧ k ≤ 4 then gB σ 7 k else -1) = -1 := by
    rcases h with h | h
    · rw [if_neg h]
    · rw [h]; split <;> rfl
  rw [e, show F_fit (nI (gN σ 4)) (-1) w = 1 from rfl, show (1 : Int32).toInt64 = 1 from rfl, show v * 3 + w = 3 * v + w by omega, Int64.mul_one, Int64.mul_one]
set_option maxHeartbeats 4000000 in
set_option maxRecDepth 100000 in
theorem k_X12_oddsOf (l : Launch) (D : va_G) (b z : Nat) {h : qH} {m : Nat} {σ : sg} {s18 s35 : Int64} {s19 s20 s23 s24 : Int32} {f21 f22 : Nat → Int32} (hM : MdO h m σ s18 s19 s20 s23 s24 s35) (hR : MdR D h m σ f21 f22) (h6 : gN σ 6 < 3) {c : Nat} (hc : c < 729) : qMl l D b yX12_oddsOf cX12_oddsOf 7 1 23 [.ref (m), .int (nI (c))] h z (fun r h' => r = odC σ c ∧ h' = h) := by
  refine q_l (L := [(0, .ref (m)), (1, .int (nI (c)))]) (own := RX12) (by decide) rfl (Nat.le_of_ble_eq_true rfl) rfl ?_
  intro X C ret
  refine g_lconst C (v := 1) dX12_oddsOf_0 (by decide) rfl ?_
  refine g_lstore_n C ([(2, .long (1)), (0, .ref (m)), (1, .int (nI (c)))]) dX12_oddsOf_1 rfl (by decide) rfl rfl ?_
  refine g_aload_n C 1 dX12_oddsOf_2 rfl rfl rfl ?_
  refine gf_12_92 C (hM) (v := .int (nI (gN σ 6))) rfl dX12_oddsOf_3 rfl ?_
  refine g_istore C ([(4, .int (nI (gN σ 6))), (2, .long (1)), (0, .ref (m)), (1, .int (nI (c)))]) dX12_oddsOf_6 (by decide) rfl rfl ?_
  refine g_iconst C (v := 1) dX12_oddsOf_8 (by decide) rfl ?_
  refine g_istore C ([(5, .int (1)), (4, .int (nI (gN σ 6))), (2, .long (1)), (0, .ref (m)), (1, .int (nI (c)))]) dX12_oddsOf_9 (by decide) rfl rfl ?_
  have loop11 : ∀ (N : Nat) (k : Nat) (ac : Int64) (at_ : Nat), 6 - k < N → (k ≤ 6) → (ac = (odB (stS σ) (gN σ 6) (wIn c) k).1) → (at_ = (odB (stS σ) (gN σ 6) (wIn c) k).2) → (at_ < 3) → qG X 0 0 z h 11 [(5, .int (nI (k + 1))), (4, .int (nI (at_))), (2, .long (ac)), (0, .ref (m)), (1, .int (nI (c)))] [] := by
    intro N
    induction N with
    | zero => intro k ac at_ hm; exact absurd hm (Nat.not_lt_zero _)
    | succ N ih11 =>
      intro k ac at_ hm hk hac hat ha3
      refine g_iload C 0 dX12_oddsOf_11 rfl rfl ?_
      refine g_bipush C (v := 6) dX12_oddsOf_13 (by decide) rfl ?_
      refine g_icmp_gt C dX12_oddsOf_15 (tgt := 90) (by decide) (pc' := 18) rfl ?_ ?_
      · intro c15
        replace c15 := (nI_ltI (a := 6) (b := k + 1) (by omega) (by omega)).mp c15
        refine g_lload_n C 2 dX12_oddsOf_90 rfl rfl rfl ?_
        exact ret _ _ _ _ dX12_oddsOf_91 (⟨by rw [hac, show k = 6 by omega]; rfl, rfl⟩)
      · intro c15
        replace c15 := (not_congr (nI_ltI (a := 6) (b := k + 1) (by omega) (by omega))).mp c15
        refine g_iload_n C 4 dX12_oddsOf_18 rfl rfl rfl ?_
        refine g_iload C 0 dX12_oddsOf_19 rfl rfl ?_
        refine g_callSi C (As := [.int (nI (c)), .int (nI (k + 1))]) (k_X12_weatherIn l D b z h (c := c) (a := k + 1) (by omega) (by omega)) hw_12_104 (by decide) rfl rfl (Nat.le_of_ble_eq_true rfl) ⟨Nat.zero_le _, Nat.zero_le _⟩ dX12_oddsOf_21 (pc' := 24) rfl ?_
        rintro r1 h9 ⟨er, e9⟩
        subst h9; subst er
        have hw3 := wIn_lt (c) (k + 1)
        refine g_istore C ([(6, .int (nI (wIn (c) (k + 1)))), (5, .int (nI (k + 1))), (4, .int (nI (at_))), (2, .long (ac)), (0, .ref (m)), (1, .int (nI (c)))]) dX12_oddsOf_24 (by decide) rfl rfl ?_
        refine g_lload_n C 3 dX12_oddsOf_26 rfl rfl rfl ?_
        refine g_aload_n C 4 dX12_oddsOf_27 rfl rfl rfl ?_
        refine gf_12_7 C (hM) (v := .ref (m + 1)) rfl dX12_oddsOf_28 rfl ?_
        refine g_iconst C (v := 3) dX12_oddsOf_31 (by decide) rfl ?_
        refine g_iload C 2 dX12_oddsOf_32 rfl rfl ?_
        refine g_imul C dX12_oddsOf_34 rfl ?_
        refine g_topi (y := nI (3 * at_)) (pk_mul _ _) ?_
        refine g_iload C 0 dX12_oddsOf_35 rfl rfl ?_
        refine g_iadd C dX12_oddsOf_37 rfl ?_
        refine g_topi (y := nI ((3 * at_) + wIn (c) (k + 1))) (nI_add _ _) ?_
        refine g_iald' C (hR.1) (j := ((3 * at_) + wIn (c) (k + 1))) rfl (by omega) (by decide) dX12_oddsOf_38 rfl ?_
        refine g_i2l C dX12_oddsOf_39 rfl ?_
        refine g_lmul C dX12_oddsOf_40 rfl ?_
        refine g_lstore_n C ([(2, .long ((ac) * ((tnS σ (((3 * at_) + wIn (c) (k + 1)))).toInt64))), (6, .int (nI (wIn (c) (k + 1)))), (5, .int (nI (k + 1))), (4, .int (nI (at_))), (0, .ref (m)), (1, .int (nI (c)))]) dX12_oddsOf_41 rfl (by decide) rfl rfl ?_
        refine g_lload_n C 0 dX12_oddsOf_42 rfl rfl rfl ?_
        refine g_iload C 2 dX12_oddsOf_43 rfl rfl ?_
        refine g_iconst C (v := 4) dX12_oddsOf_45 (by decide) rfl ?_
        refine g_icmp_gt C dX12_oddsOf_46 (tgt := 77) (by decide) (pc' := 49) rfl ?_ ?_
        · intro c46
          replace c46 := (nI_ltI (a := 4) (b := k + 1) (by omega) (by omega)).mp c46
          refine g_lconst C (v := 1) dX12_oddsOf_77 (by decide) rfl ?_
          refine g_lmul C dX12_oddsOf_78 rfl ?_
          refine g_lstore_n C ([(2, .long (((ac) * ((tnS σ (((3 * at_) + wIn (c) (k + 1)))).toInt64)) * (1))), (6, .int (nI (wIn (c) (k + 1)))), (5, .int (nI (k + 1))), (4, .int (nI (at_))), (0, .ref (m)), (1, .int (nI (c)))]) dX12_oddsOf_79 rfl (by decide) rfl rfl ?_
          refine g_iload C 1 dX12_oddsOf_80 rfl rfl ?_
          refine g_istore C ([(4, .int (nI (wIn (c) (k + 1)))), (2, .long (((ac) * ((tnS σ (((3 * at_) + wIn (c) (k + 1)))).toInt64)) * (1))), (6, .int (nI (wIn (c) (k + 1)))), (5, .int (nI (k + 1))), (0, .ref (m)), (1, .int (nI (c)))]) dX12_oddsOf_82 (by decide) rfl rfl ?_
          refine g_iinc C (v := nI (k + 1 + 1)) 3 ([(5, .int (nI (k + 1 + 1))), (4, .int (nI (wIn (c) (k + 1)))), (2, .long (((ac) * ((tnS σ (((3 * at_) + wIn (c) (k + 1)))).toInt64)) * (1))), (6, .int (nI (wIn (c) (k + 1)))), (0, .ref (m)), (1, .int (nI (c)))]) dX12_oddsOf_84 rfl (nI_1 _) (by decide) rfl rfl ?_
          refine g_goto C dX12_oddsOf_87 (tgt := 11) (by decide) ?_
          refine q_lsub [0, 1, 2, 4, 5] (L' := [(5, .int (nI (k + 1 + 1))), (4, .int (nI (wIn (c) (k + 1)))), (2, .long (((ac) * ((tnS σ (((3 * at_) + wIn (c) (k + 1)))).toInt64)) * (1))), (0, .ref (m)), (1, .int (nI (c)))]) rfl ?_
          exact ih11 (k + 1) (((ac) * ((tnS σ (((3 * at_) + wIn (c) (k + 1)))).toInt64)) * (1)) (wIn c (k + 1)) (by omega) (by omega) (by rw [hat, hac]; exact od_none (Or.inl (by omega))) (rfl) (wIn_lt _ _)
        · intro c46
          replace c46 := (not_congr (nI_ltI (a := 4) (b := k + 1) (by omega) (by omega))).mp c46
          refine g_aload_n C 4 dX12_oddsOf_49 rfl rfl rfl ?_
          refine gf_12_13 C (hM) (v := .ref (m + 2)) rfl dX12_oddsOf_50 rfl ?_
          refine g_iload C 2 dX12_oddsOf_53 rfl rfl ?_
          refine g_iald' C (hR.2.1) (j := k + 1) rfl (by omega) (by decide) dX12_oddsOf_55 rfl ?_
          refine g_iconst C (v := -1) dX12_oddsOf_56 (by decide) rfl ?_
          refine g_icmp_eq C dX12_oddsOf_57 (tgt := 77) (by decide) (pc' := 60) rfl ?_ ?_
          · intro c57
            refine g_lconst C (v := 1) dX12_oddsOf_77 (by decide) rfl ?_
            refine g_lmul C dX12_oddsOf_78 rfl ?_
            refine g_lstore_n C ([(2, .long (((ac) * ((tnS σ (((3 * at_) + wIn (c) (k + 1)))).toInt64)) * (1))), (6, .int (nI (wIn (c) (k + 1)))), (5, .int (nI (k + 1))), (4, .int (nI (at_))), (0, .ref (m)), (1, .int (nI (c)))]) dX12_oddsOf_79 rfl (by decide) rfl rfl ?_
            refine g_iload C 1 dX12_oddsOf_80 rfl rfl ?_
            refine g_istore C ([(4, .int (nI (wIn (c) (k + 1)))), (2, .long (((ac) * ((tnS σ (((3 * at_) + wIn (c) (k + 1)))).toInt64)) * (1))), (6, .int (nI (wIn (c) (k + 1)))), (5, .int (nI (k + 1))), (0, .ref (m)), (1, .int (nI (c)))]) dX12_oddsOf_82 (by decide) rfl rfl ?_
            refine g_iinc C (v := nI (k + 1 + 1)) 3 ([(5, .int (nI (k + 1 + 1))), (4, .int (nI (wIn (c) (k + 1)))), (2, .long (((ac) * ((tnS σ (((3 * at_) + wIn (c) (k + 1)))).toInt64)) * (1))), (6, .int (nI (wIn (c) (k + 1)))), (0, .ref (m)), (1, .int (nI (c)))]) dX12_oddsOf_84 rfl (nI_1 _) (by decide) rfl rfl ?_
            refine g_goto C dX12_oddsOf_87 (tgt := 11) (by decide) ?_
            refine q_lsub [0, 1, 2, 4, 5] (L' := [(5, .int (nI (k + 1 + 1))), (4, .int (nI (wIn (c) (k + 1)))), (2, .long (((ac) * ((tnS σ (((3 * at_) + wIn (c) (k + 1)))).toInt64)) * (1))), (0, .ref (m)), (1, .int (nI (c)))]) rfl ?_
            exact ih11 (k + 1) (((ac) * ((tnS σ (((3 * at_) + wIn (c) (k + 1)))).toInt64)) * (1)) (wIn c (k + 1)) (by omega) (by omega) (by rw [hat, hac]; exact od_none (Or.inr c57)) (rfl) (wIn_lt _ _)
          · intro c57
            refine g_aload_n C 4 dX12_oddsOf_60 rfl rfl rfl ?_
            refine g_aload_n C 4 dX12_oddsOf_61 rfl rfl rfl ?_
            refine gf_12_13 C (hM) (v := .ref (m + 2)) rfl dX12_oddsOf_62 rfl ?_
            refine g_iload C 2 dX12_oddsOf_65 rfl rfl ?_
            refine g_iald' C (hR.2.1) (j := k + 1) rfl (by omega) (by decide) dX12_oddsOf_67 rfl ?_
            refine g_iload C 1 dX12_oddsOf_68 rfl rfl ?_
            refine g_callVi C (As := [.int (gB σ 7 (k + 1)), .int (nI (wIn (c) (k + 1)))]) (q := (RX12, TX12, 36)) (k_X12_tells l D b z hM hR (gB σ 7 (k + 1)) (w := wIn (c) (k + 1)) (by omega) c57) hw_12_108 (hM) rfl (by decide) rfl rfl (Nat.le_of_ble_eq_true rfl) ⟨Nat.zero_le _, Nat.zero_le _⟩ dX12_oddsOf_70 (pc' := 73) rfl ?_
            rintro r2 h9 ⟨er, e9⟩
            subst h9; subst er
            refine g_i2l C dX12_oddsOf_73 rfl ?_
            refine g_goto C dX12_oddsOf_74 (tgt := 78) (by decide) ?_
            refine g_lmul C dX12_oddsOf_78 rfl ?_
            refine g_lstore_n C ([(2, .long (((ac) * ((tnS σ (((3 * at_) + wIn (c) (k + 1)))).toInt64)) * ((F_fit (nI (gN σ 4)) (gB σ 7 (k + 1)) (wIn (c) (k + 1))).toInt64))), (6, .int (nI (wIn (c) (k + 1)))), (5, .int (nI (k + 1))), (4, .int (nI (at_))), (0, .ref (m)), (1, .int (nI (c)))]) dX12_oddsOf_79 rfl (by decide) rfl rfl ?_
            refine g_iload C 1 dX12_oddsOf_80 rfl rfl ?_
            refine g_istore C ([(4, .int (nI (wIn (c) (k + 1)))), (2, .long (((ac) * ((tnS σ (((3 * at_) + wIn (c) (k + 1)))).toInt64)) * ((F_fit (nI (gN σ 4)) (gB σ 7 (k + 1)) (wIn (c) (k + 1))).toInt64))), (6, .int (nI (wIn (c) (k + 1)))), (5, .int (nI (k + 1))), (0, .ref (m)), (1, .int (nI (c)))]) dX12_oddsOf_82 (by decide) rfl rfl ?_
            refine g_iinc C (v := nI (k + 1 + 1)) 3 ([(5, .int (nI (k + 1 + 1))), (4, .int (nI (wIn (c) (k + 1)))), (2, .long (((ac) * ((tnS σ (((3 * at_) + wIn (c) (k + 1)))).toInt64)) * ((F_fit (nI (gN σ 4)) (gB σ 7 (k + 1)) (wIn (c) (k + 1))).toInt64))), (6, .int (nI (wIn (c) (k + 1)))), (0, .ref (m)), (1, .int (nI (c)))]) dX12_oddsOf_84 rfl (nI_1 _) (by decide) rfl rfl ?_
            refine g_goto C dX12_oddsOf_87 (tgt := 11) (by decide) ?_
            refine q_lsub [0, 1, 2, 4, 5] (L' := [(5, .int (nI (k + 1 + 1))), (4, .int (nI (wIn (c) (k + 1)))), (2, .long (((ac) * ((tnS σ (((3 * at_) + wIn (c) (k + 1)))).toInt64)) * ((F_fit (nI (gN σ 4)) (gB σ 7 (k + 1)) (wIn (c) (k + 1))).toInt64))), (0, .ref (m)), (1, .int (nI (c)))]) rfl ?_
            exact ih11 (k + 1) (((ac) * ((tnS σ (((3 * at_) + wIn (c) (k + 1)))).toInt64)) * ((F_fit (nI (gN σ 4)) (gB σ 7 (k + 1)) (wIn (c) (k + 1))).toInt64)) (wIn c (k + 1)) (by omega) (by omega) (by rw [hat, hac]; exact od_told (by omega) (by omega)) (rfl) (wIn_lt _ _)
  exact loop11 _ (0) (1) (gN σ 6) (Nat.lt_succ_self _) (by omega) (rfl) (rfl) (h6)
def wgB (od : Nat → Int64) (sel : Nat → Prop) [DecidablePred sel] : Nat → Int64
  | 0 => 0
  | c + 1 => wgB od sel c + (if sel c then od c else 0)
def wgC (σ : sg) (a : Nat) (w : Int32) : Int64 := wgB (odC σ) (fun c => w = -1 ∨ nI (wIn c a) = w) 729
set_option maxHeartbeats 4000000 in
set_option maxRecDepth 100000 in
theorem k_X12_weightOf (l : Launch) (D : va_G) (b z : Nat) {h : qH} {m : Nat} {σ : sg} {s18 s35 : Int64} {s19 s20 s23 s24 : Int32} {f21 f22 : Nat → Int32} (hM : MdO h m σ s18 s19 s20 s23 s24 s35) (hR : MdR D h m σ f21 f22) (h6 : gN σ 6 < 3) {a : Nat} (ha : a ≤ 6) (w : Int32) : qMl l D b yX12_weightOf cX12_weightOf 6 2 49 [.ref (m), .int (nI (a)), .int (w)] h z (fun r h' => r = wgC σ a w ∧ h' = h) := by
  refine q_l (L := [(0, .ref (m)), (1, .int (nI (a))), (2, .int (w))]) (own := RX12) (by decide) rfl (Nat.le_of_ble_eq_true rfl) rfl ?_
  intro X C ret
  refine g_lconst C (v := 0) dX12_weightOf_0 (by decide) rfl ?_
  refine g_lstore_n C ([(3, .long (0)), (0, .ref (m)), (1, .int (nI (a))), (2, .int (w))]) dX12_weightOf_1 rfl (by decide) rfl rfl ?_
  refine g_iconst C (v := 0) dX12_weightOf_2 (by decide) rfl ?_
  refine g_istore C ([(5, .int (0)), (3, .long (0)), (0, .ref (m)), (1, .int (nI (a))), (2, .int (w))]) dX12_weightOf_3 (by decide) rfl rfl ?_
  have loop5 : ∀ (N : Nat) (c : Nat) (ac : Int64), 729 - c < N → (c ≤ 729) → (ac = wgB (odC σ) (fun c => w = -1 ∨ nI (wIn c a) = w) c) → qG X 0 0 z h 5 [(5, .int (nI (c))), (3, .long (ac)), (0, .ref (m)), (1, .int (nI (a))), (2, .int (w))] [] := by
    intro N
    induction N with
    | zero => intro c ac hm; exact absurd hm (Nat.not_lt_zero _)
    | succ N ih5 =>
      intro c ac hm hc hac
      refine g_iload C 0 dX12_weightOf_5 rfl rfl ?_
      refine g_sipush C (v := 729) dX12_weightOf_7 (by decide) rfl ?_
      refine g_icmp_ge C dX12_weightOf_10 (tgt := 47) (by decide) (pc' := 13) rfl ?_ ?_
      · intro c10
        replace c10 := (nI_leI (a := 729) (b := c) (by omega) (by omega)).mp c10
        refine g_lload_n C 1 dX12_weightOf_47 rfl rfl rfl ?_
        exact ret _ _ _ _ dX12_weightOf_48 (⟨by rw [hac, show c = 729 by omega]; rfl, rfl⟩)
      · intro c10
        replace c10 := (not_congr (nI_leI (a := 729) (b := c) (by omega) (by omega))).mp c10
        refine g_lload_n C 1 dX12_weightOf_13 rfl rfl rfl ?_
        refine g_iload_n C 4 dX12_weightOf_14 rfl rfl rfl ?_
        refine g_iconst C (v := -1) dX12_weightOf_15 (by decide) rfl ?_
        refine g_icmp_eq C dX12_weightOf_16 (tgt := 29) (by decide) (pc' := 19) rfl ?_ ?_
        · intro c16
          refine g_aload_n C 2 dX12_weightOf_29 rfl rfl rfl ?_
          refine g_iload C 0 dX12_weightOf_30 rfl rfl ?_
          refine g_callVl C (As := [.int (nI (c))]) (q := (RX12, TX12, 36)) (k_X12_oddsOf l D b z hM hR h6 (c := c) (by omega)) hw_12_111 (hM) rfl (by decide) rfl rfl (Nat.le_of_ble_eq_true rfl) ⟨Nat.zero_le _, Nat.zero_le _⟩ dX12_weightOf_32 (pc' := 35) rfl ?_
          rintro r1 h9 ⟨er, e9⟩
          subst h9; subst er
          refine g_goto C dX12_weightOf_35 (tgt := 39) (by decide) ?_
          refine g_ladd C dX12_weightOf_39 rfl ?_
          refine g_lstore_n C ([(3, .long ((ac) + (odC σ (c)))), (5, .int (nI (c))), (0, .ref (m)), (1, .int (nI (a))), (2, .int (w))]) dX12_weightOf_40 rfl (by decide) rfl rfl ?_
          refine g_iinc C (v := nI (c + 1)) 1 ([(5, .int (nI (c + 1))), (3, .long ((ac) + (odC σ (c)))), (0, .ref (m)), (1, .int (nI (a))), (2, .int (w))]) dX12_weightOf_41 rfl (nI_1 _) (by decide) rfl rfl ?_
          refine g_goto C dX12_weightOf_44 (tgt := 5) (by decide) ?_
          exact ih5 (c + 1) ((ac) + (odC σ (c))) (by omega) (by omega) (by simp only [wgB]; rw [hac, if_pos (Or.inl c16)])
        · intro c16
          refine g_iload C 0 dX12_weightOf_19 rfl rfl ?_
          refine g_iload_n C 3 dX12_weightOf_21 rfl rfl rfl ?_
          refine g_callSi C (As := [.int (nI (c)), .int (nI (a))]) (k_X12_weatherIn l D b z h (c := c) (a := a) (by omega) (by omega)) hw_12_104 (by decide) rfl rfl (Nat.le_of_ble_eq_true rfl) ⟨Nat.zero_le _, Nat.zero_le _⟩ dX12_weightOf_22 (pc' := 25) rfl ?_
          rintro r2 h9 ⟨er, e9⟩
          subst h9; subst er
          have hw3 := wIn_lt (c) (a)
          refine g_iload_n C 4 dX12_weightOf_25 rfl rfl rfl ?_
          refine g_icmp_ne C dX12_weightOf_26 (tgt := 38) (by decide) (pc' := 29) rfl ?_ ?_
          · intro c26
            refine g_lconst C (v := 0) dX12_weightOf_38 (by decide) rfl ?_
            refine g_ladd C dX12_weightOf_39 rfl ?_
            refine g_lstore_n C ([(3, .long ((ac) + (0))), (5, .int (nI (c))), (0, .ref (m)), (1, .int (nI (a))), (2, .int (w))]) dX12_weightOf_40 rfl (by decide) rfl rfl ?_
            refine g_iinc C (v := nI (c + 1)) 1 ([(5, .int (nI (c + 1))), (3, .long ((ac) + (0))), (0, .ref (m)), (1, .int (nI (a))), (2, .int (w))]) dX12_weightOf_41 rfl (nI_1 _) (by decide) rfl rfl ?_
            refine g_goto C dX12_weightOf_44 (tgt := 5) (by decide) ?_
            exact ih5 (c + 1) ((ac) + (0)) (by omega) (by omega) (by simp only [wgB]; rw [hac, if_neg (fun g => g.elim c16 c26)])
          · intro c26
            refine g_aload_n C 2 dX12_weightOf_29 rfl rfl rfl ?_
            refine g_iload C 0 dX12_weightOf_30 rfl rfl ?_
            refine g_callVl C (As := [.int (nI (c))]) (q := (RX12, TX12, 36)) (k_X12_oddsOf l D b z hM hR h6 (c := c) (by omega)) hw_12_111 (hM) rfl (by decide) rfl rfl (Nat.le_of_ble_eq_true rfl) ⟨Nat.zero_le _, Nat.zero_le _⟩ dX12_weightOf_32 (pc' := 35) rfl ?_
            rintro r3 h9 ⟨er, e9⟩
            subst h9; subst er
            refine g_goto C dX12_weightOf_35 (tgt := 39) (by decide) ?_
            refine g_ladd C dX12_weightOf_39 rfl ?_
            refine g_lstore_n C ([(3, .long ((ac) + (odC σ (c)))), (5, .int (nI (c))), (0, .ref (m)), (1, .int (nI (a))), (2, .int (w))]) dX12_weightOf_40 rfl (by decide) rfl rfl ?_
            refine g_iinc C (v := nI (c + 1)) 1 ([(5, .int (nI (c + 1))), (3, .long ((ac) + (odC σ (c)))), (0, .ref (m)), (1, .int (nI (a))), (2, .int (w))]) dX12_weightOf_41 rfl (nI_1 _) (by decide) rfl rfl ?_
            refine g_goto C dX12_weightOf_44 (tgt := 5) (by decide) ?_
            exact ih5 (c + 1) ((ac) + (odC σ (c))) (by omega) (by omega) (by simp only [wgB]; rw [hac, if_pos (Or.inr c26)])
  exact loop5 _ (0) (0) (Nat.lt_succ_self _) (by omega) (rfl)

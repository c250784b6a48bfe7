/-! the keepers, and days by a seed -/
def kci (kd : Nat) : Nat := if kd = 0 then 4 else if kd = 1 then 2 else if kd = 2 then 6 else if kd = 3 then 1 else 5
def covQ (kd : Nat) (rd : Nat → Int32) (stp : Nat → Nat → Nat → Int64) (wn : Nat) (cost loss : Int32) : Prop := if kd = 0 then F_rdg rd 1 = 1 else if kd = 1 then ¬ loss.toInt64 * oddF stp wn 1 1 ≤ cost.toInt64 * allF stp wn else if kd = 2 then srF (fun w => oddF stp wn 1 w) = 1 else if kd = 3 then ¬ F_rdg rd 1 = 1 else (¬ F_rdg rd 1 = -1 ∧ ¬ F_rdg rd 1 = 1)
theorem KpAt.fr {h h1 : qH} {q ci : Nat} {c t p : Int32} (H : KpAt h q ci c t p) (o : ∀ x, q ≤ x → x < q + 1 → h1 x = h x) : KpAt h1 q ci c t p := (o _ (by omega) (by omega)).trans H
theorem TrAt.fr {D : va_G} {h h1 : qH} {a s : Nat} {dr : Nat → Int32} {da : Int32} {sd : Int64} {wt pd sp : Int32} (H : TrAt D h a s dr da sd wt pd sp) (o : ∀ q, (q = a ∨ q = a + 35) → h1 q = h q) : TrAt D h1 a s dr da sd wt pd sp := ⟨(o _ (Or.inl rfl)).trans H.1, (o _ (Or.inr rfl)).trans H.2⟩
theorem ImAt.fr {D : va_G} {h h1 : qH} {a : Nat} {pd : Nat → Int32} {pp kp : Int32} (H : ImAt D h a pd pp kp) (o : ∀ q, (q = a ∨ q = a + 38) → h1 q = h q) : ImAt D h1 a pd pp kp := ⟨(o _ (Or.inl rfl)).trans H.1, (o _ (Or.inr rfl)).trans H.2⟩
theorem GaAt.fr {h h1 : qH} {a : Nat} {n : Int32} (H : GaAt h a n) (o : ∀ q, a ≤ q → q < a + 1 → h1 q = h q) : GaAt h1 a n := (o _ (by omega) (by omega)).trans H
set_option maxHeartbeats 4000000 in
set_option maxRecDepth 100000 in
theorem k_X4_kindNumber (l : Launch) (D : va_G) (b z : Nat) (h : qH) (q : Nat) : qMi l D b yX4_kindNumber cX4_kindNumber 1 .int 0 0 [.ref (q)] h z (fun r h' => r = 0 ∧ h' = h) := by
  refine q_i (L := [(0, .ref (q))]) (own := RX4) (by decide) rfl (Nat.le_of_ble_eq_true rfl) rfl ?_
  intro X C ret
  refine g_iconst C (v := 0) dX4_kindNumber_0 (by decide) rfl ?_
  exact ret _ _ _ _ dX4_kindNumber_1 rfl (⟨rfl, rfl⟩)
set_option maxHeartbeats 4000000 in
set_option maxRecDepth 100000 in
theorem k_X2_kindNumber (l : Launch) (D : va_G) (b z : Nat) (h : qH) (q : Nat) : qMi l D b yX2_kindNumber cX2_kindNumber 1 .int 0 0 [.ref (q)] h z (fun r h' => r = 1 ∧ h' = h) := by
  refine q_i (L := [(0, .ref (q))]) (own := RX2) (by decide) rfl (Nat.le_of_ble_eq_true rfl) rfl ?_
  intro X C ret
  refine g_iconst C (v := 1) dX2_kindNumber_0 (by decide) rfl ?_
  exact ret _ _ _ _ dX2_kindNumber_1 rfl (⟨rfl, rfl⟩)
set_option maxHeartbeats 4000000 in
set_option maxRecDepth 100000 in
theorem k_X6_kindNumber (l : Launch) (D : va_G) (b z : Nat) (h : qH) (q : Nat) : qMi l D b yX6_kindNumber cX6_kindNumber 1 .int 0 0 [.ref (q)] h z (fun r h' => r = 2 ∧ h' = h) := by
  refine q_i (L := [(0, .ref (q))]) (own := RX6) (by decide) rfl (Nat.le_of_ble_eq_true rfl) rfl ?_
  intro X C ret
  refine g_iconst C (v := 2) dX6_kindNumber_0 (by decide) rfl ?_
  exact ret _ _ _ _ dX6_kindNumber_1 rfl (⟨rfl, rfl⟩)
set_option maxHeartbeats 4000000 in
set_option maxRecDepth 100000 in
theorem k_X1_kindNumber (l : Launch) (D : va_G) (b z : Nat) (h : qH) (q : Nat) : qMi l D b yX1_kindNumber cX1_kindNumber 1 .int 0 0 [.ref (q)] h z (fun r h' => r = 3 ∧ h' = h) := by
  refine q_i (L := [(0, .ref (q))]) (own := RX1) (by decide) rfl (Nat.le_of_ble_eq_true rfl) rfl ?_
  intro X C ret
  refine g_iconst C (v := 3) dX1_kindNumber_0 (by decide) rfl ?_
  exact ret _ _ _ _ dX1_kindNumber_1 rfl (⟨rfl, rfl⟩)
set_option maxHeartbeats 4000000 in
set_option maxRecDepth 100000 in
theorem k_X5_kindNumber (l : Launch) (D : va_G) (b z : Nat) (h : qH) (q : Nat) : qMi l D b yX5_kindNumber cX5_kindNumber 1 .int 0 0 [.ref (q)] h z (fun r h' => r = 4 ∧ h' = h) := by
  refine q_i (L := [(0, .ref (q))]) (own := RX5) (by decide) rfl (Nat.le_of_ble_eq_true rfl) rfl ?_
  intro X C ret
  refine g_iconst C (v := 4) dX5_kindNumber_0 (by decide) rfl ?_
  exact ret _ _ _ _ dX5_kindNumber_1 rfl (⟨rfl, rfl⟩)
set_option maxHeartbeats 4000000 in
set_option maxRecDepth 100000 in
theorem k_X4_covers (l : Launch) (D : va_G) (b z : Nat) {h : qH} {a s : Nat} {tn : Nat → Int32} {sl : Int32} {rd : Nat → Int32} {dn : Int32} {wn : Nat} (hwn : wn < 3) (hOK : OlOK D h a s tn sl rd dn wn) (q : Nat) (c t : Int32) : qMi l D b yX4_covers cX4_covers 2 .boolean 1 21 [.ref (q), .ref (a)] h z (fun r h' => ((r = 1 ∧ covQ 0 rd (F_step tn sl rd) wn c t) ∨ (r = 0 ∧ ¬ covQ 0 rd (F_step tn sl rd) wn c t)) ∧ h' = h) := by
  refine q_i (L := [(0, .ref (q)), (1, .ref (a))]) (own := RX4) (by decide) rfl (Nat.le_of_ble_eq_true rfl) rfl ?_
  intro X C ret
  obtain ⟨hOl, U, B, M, P, ⟨hU, hB, hM, hP⟩, hR, hRU⟩ := id hOK
  refine g_aload_n C 1 dX4_covers_0 rfl rfl rfl ?_
  refine g_iconst C (v := 1) dX4_covers_1 (by decide) rfl ?_
  refine g_callVi C (As := [.int (1)]) (q := (RX7, TX7, 8)) (k_X7_readingOf l D b z hOK.1 (k := 1) (by omega)) hw_4_18 (hOl.1) rfl (by decide) rfl rfl (Nat.le_of_ble_eq_true rfl) ⟨Nat.zero_le _, Nat.zero_le _⟩ dX4_covers_2 (pc' := 5) rfl ?_
  rintro r1 h9 ⟨er, e9⟩
  subst h9; subst er
  refine g_iconst C (v := 1) dX4_covers_5 (by decide) rfl ?_
  refine g_icmp_ne C dX4_covers_6 (tgt := 13) (by decide) (pc' := 9) rfl ?_ ?_
  · intro c6
    refine g_iconst C (v := 0) dX4_covers_13 (by decide) rfl ?_
    exact ret _ _ _ _ dX4_covers_14 rfl (⟨Or.inr ⟨rfl, c6⟩, rfl⟩)
  · intro c6
    refine g_iconst C (v := 1) dX4_covers_9 (by decide) rfl ?_
    refine g_goto C dX4_covers_10 (tgt := 14) (by decide) ?_
    exact ret _ _ _ _ dX4_covers_14 rfl (⟨Or.inl ⟨rfl, c6⟩, rfl⟩)
set_option maxHeartbeats 4000000 in
set_option maxRecDepth 100000 in
theorem k_X2_covers (l : Launch) (D : va_G) (b z : Nat) {h : qH} {a s : Nat} {tn : Nat → Int32} {sl : Int32} {rd : Nat → Int32} {dn : Int32} {wn : Nat} (hwn : wn < 3) (hOK : OlOK D h a s tn sl rd dn wn) {q : Nat} {c t p : Int32} (hKp : KpAt h q 2 c t p) : qMi l D b yX2_covers cX2_covers 2 .boolean 2 42 [.ref (q), .ref (a)] h z (fun r h' => ((r = 1 ∧ covQ 1 rd (F_step tn sl rd) wn c t) ∨ (r = 0 ∧ ¬ covQ 1 rd (F_step tn sl rd) wn c t)) ∧ h' = h) := by
  refine q_i (L := [(0, .ref (q)), (1, .ref (a))]) (own := RX2) (by decide) rfl (Nat.le_of_ble_eq_true rfl) rfl ?_
  intro X C ret
  obtain ⟨hOl, U, B, M, P, ⟨hU, hB, hM, hP⟩, hR, hRU⟩ := id hOK
  refine g_aload_n C 0 dX2_covers_0 rfl rfl rfl ?_
  refine gf_2_9 C (hKp) (v := .int (t)) rfl dX2_covers_1 rfl ?_
  refine g_i2l C dX2_covers_4 rfl ?_
  refine g_aload_n C 1 dX2_covers_5 rfl rfl rfl ?_
  refine g_iconst C (v := 1) dX2_covers_6 (by decide) rfl ?_
  refine g_iconst C (v := 1) dX2_covers_7 (by decide) rfl ?_
  refine g_callVl C (As := [.int (1), .int (1)]) (q := (RX7, TX7, 8)) (k_X7_oddsOf l D b z hwn hOK (k := 1) (w := 1) (by omega) (by omega)) hw_2_15 (hOl.1) rfl (by decide) rfl rfl (Nat.le_of_ble_eq_true rfl) ⟨Nat.zero_le _, Nat.zero_le _⟩ dX2_covers_8 (pc' := 11) rfl ?_
  rintro r1 h9 ⟨er, e9⟩
  subst h9; subst er
  refine g_lmul C dX2_covers_11 rfl ?_
  refine g_aload_n C 0 dX2_covers_12 rfl rfl rfl ?_
  refine gf_2_21 C (hKp) (v := .int (c)) rfl dX2_covers_13 rfl ?_
  refine g_i2l C dX2_covers_16 rfl ?_
  refine g_aload_n C 1 dX2_covers_17 rfl rfl rfl ?_
  refine g_callVl C (As := []) (q := (RX7, TX7, 8)) (k_X7_allOdds l D b z hwn hOK) hw_2_24 (hOl.1) rfl (by decide) rfl rfl (Nat.le_of_ble_eq_true rfl) ⟨Nat.zero_le _, Nat.zero_le _⟩ dX2_covers_18 (pc' := 21) rfl ?_
  rintro r2 h9 ⟨er, e9⟩
  subst h9; subst er
  refine g_lmul C dX2_covers_21 rfl ?_
  refine g_lcmp C dX2_covers_22 rfl ?_
  refine g_if_le C dX2_covers_23 (tgt := 30) (by decide) (pc' := 26) rfl ?_ ?_
  · intro c23
    replace c23 := (lg_cmp_le _ _).mp c23
    refine g_iconst C (v := 0) dX2_covers_30 (by decide) rfl ?_
    exact ret _ _ _ _ dX2_covers_31 rfl (⟨Or.inr ⟨rfl, fun g => g c23⟩, rfl⟩)
  · intro c23
    replace c23 := (not_congr (lg_cmp_le _ _)).mp c23
    refine g_iconst C (v := 1) dX2_covers_26 (by decide) rfl ?_
    refine g_goto C dX2_covers_27 (tgt := 31) (by decide) ?_
    exact ret _ _ _ _ dX2_covers_31 rfl (⟨Or.inl ⟨rfl, c23⟩, rfl⟩)
set_option maxHeartbeats 4000000 in
set_option maxRecDepth 100000 in
theorem k_X6_covers (l : Launch) (D : va_G) (b z : Nat) {h : qH} {a s : Nat} {tn : Nat → Int32} {sl : Int32} {rd : Nat → Int32} {dn : Int32} {wn : Nat} (hwn : wn < 3) (hOK : OlOK D h a s tn sl rd dn wn) (q : Nat) (c t : Int32) : qMi l D b yX6_covers cX6_covers 2 .boolean 3 65 [.ref (q), .ref (a)] h z (fun r h' => ((r = 1 ∧ covQ 2 rd (F_step tn sl rd) wn c t) ∨ (r = 0 ∧ ¬ covQ 2 rd (F_step tn sl rd) wn c t)) ∧ h' = h) := by
  refine q_i (L := [(0, .ref (q)), (1, .ref (a))]) (own := RX6) (by decide) rfl (Nat.le_of_ble_eq_true rfl) rfl ?_
  intro X C ret
  obtain ⟨hOl, U, B, M, P, ⟨hU, hB, hM, hP⟩, hR, hRU⟩ := id hOK
  refine g_aload_n C 1 dX6_covers_0 rfl rfl rfl ?_
  refine g_iconst C (v := 1) dX6_covers_1 (by decide) rfl ?_
  refine g_callVi C (As := [.int (1)]) (q := (RX7, TX7, 8)) (k_X7_sureWeather l D b z hwn hOK (k := 1) (by omega)) hw_6_9 (hOl.1) rfl (by decide) rfl rfl (Nat.le_of_ble_eq_true rfl) ⟨Nat.zero_le _, Nat.zero_le _⟩ dX6_covers_2 (pc' := 5) rfl ?_
  rintro r1 h9 ⟨er, e9⟩
  subst h9; subst er
  refine g_iconst C (v := 1) dX6_covers_5 (by decide) rfl ?_
  refine g_icmp_ne C dX6_covers_6 (tgt := 13) (by decide) (pc' := 9) rfl ?_ ?_
  · intro c6
    refine g_iconst C (v := 0) dX6_covers_13 (by decide) rfl ?_
    exact ret _ _ _ _ dX6_covers_14 rfl (⟨Or.inr ⟨rfl, c6⟩, rfl⟩)
  · intro c6
    refine g_iconst C (v := 1) dX6_covers_9 (by decide) rfl ?_
    refine g_goto C dX6_covers_10 (tgt := 14) (by decide) ?_
    exact ret _ _ _ _ dX6_covers_14 rfl (⟨Or.inl ⟨rfl, c6⟩, rfl⟩)
set_option maxHeartbeats 4000000 in
set_option maxRecDepth 100000 in
theorem k1_X1_covers (l : Launch) (D : va_G) (b z : Nat) {h : qH} {a s : Nat} {tn : Nat → Int32} {sl : Int32} {rd : Nat → Int32} {dn : Int32} {wn : Nat} (hwn : wn < 3) (hOK : OlOK D h a s tn sl rd dn wn) {q : Nat} {c t p : Int32} (hKp : KpAt h q 1 c t p) : qMi l D b yX1_covers cX1_covers 2 .boolean 2 42 [.ref (q), .ref (a)] h z (fun r h' => ((r = 1 ∧ covQ 3 rd (F_step tn sl rd) wn c t) ∨ (r = 0 ∧ ¬ covQ 3 rd (F_step tn sl rd) wn c t)) ∧ h' = h) := by
  refine q_i (L := [(0, .ref (q)), (1, .ref (a))]) (own := RX1) (by decide) rfl (Nat.le_of_ble_eq_true rfl) rfl ?_
  intro X C ret
  obtain ⟨hOl, U, B, M, P, ⟨hU, hB, hM, hP⟩, hR, hRU⟩ := id hOK
  refine g_aload_n C 0 dX1_covers_0 rfl rfl rfl ?_
  refine g_aload_n C 1 dX1_covers_1 rfl rfl rfl ?_
  refine g_callSUi C (As := [.ref (a)]) (q := (RX1, TX1, 3)) (k_X4_covers l D b z hwn hOK q c t) hw_1_7 (hKp) rfl (by decide) rfl rfl (Nat.le_of_ble_eq_true rfl) ⟨Nat.zero_le _, Nat.zero_le _⟩ dX1_covers_2 (pc' := 5) rfl ?_
  rintro r1 h9 ⟨⟨er, hp2⟩ | ⟨er, hp2⟩, e9⟩
  · subst h9; subst er
    refine g_if_ne C dX1_covers_5 (tgt := 12) (by decide) (pc' := 8) rfl (fun _ => ?_) (fun c5 => absurd c5 (by decide))
    refine g_iconst C (v := 0) dX1_covers_12 (by decide) rfl ?_
    exact ret _ _ _ _ dX1_covers_13 rfl (⟨Or.inr ⟨rfl, fun g => g hp2⟩, rfl⟩)
  · subst h9; subst er
    refine g_if_ne C dX1_covers_5 (tgt := 12) (by decide) (pc' := 8) rfl (fun c5 => absurd (by decide) c5) (fun _ => ?_)
    refine g_iconst C (v := 1) dX1_covers_8 (by decide) rfl ?_
    refine g_goto C dX1_covers_9 (tgt := 13) (by decide) ?_
    exact ret _ _ _ _ dX1_covers_13 rfl (⟨Or.inl ⟨rfl, hp2⟩, rfl⟩)
set_option maxHeartbeats 4000000 in
set_option maxRecDepth 100000 in
theorem k5_X1_covers (l : Launch) (D : va_G) (b z : Nat) {h : qH} {a s : Nat} {tn : Nat → Int32} {sl : Int32} {rd : Nat → Int32} {dn : Int32} {wn : Nat} (hwn : wn < 3) (hOK : OlOK D h a s tn sl rd dn wn) {q : Nat} {c t p : Int32} (hKp : KpAt h q 5 c t p) : qMi l D b yX1_covers cX1_covers 2 .boolean 2 42 [.ref (q), .ref (a)] h z (fun r h' => ((r = 1 ∧ covQ 3 rd (F_step tn sl rd) wn c t) ∨ (r = 0 ∧ ¬ covQ 3 rd (F_step tn sl rd) wn c t)) ∧ h' = h) := by
  refine q_i (L := [(0, .ref (q)), (1, .ref (a))]) (own := RX1) (by decide) rfl (Nat.le_of_ble_eq_true rfl) rfl ?_
  intro X C ret
  obtain ⟨hOl, U, B, M, P, ⟨hU, hB, hM, hP⟩, hR, hRU⟩ := id hOK
  refine g_aload_n C 0 dX1_covers_0 rfl rfl rfl ?_
  refine g_aload_n C 1 dX1_covers_1 rfl rfl rfl ?_
  refine g_callSUi C (As := [.ref (a)]) (q := (RX5, TX5, 3)) (k_X4_covers l D b z hwn hOK q c t) hw_1_7 (hKp) rfl (by decide) rfl rfl (Nat.le_of_ble_eq_true rfl) ⟨Nat.zero_le _, Nat.zero_le _⟩ dX1_covers_2 (pc' := 5) rfl ?_
  rintro r1 h9 ⟨⟨er, hp2⟩ | ⟨er, hp2⟩, e9⟩
  · subst h9; subst er
    refine g_if_ne C dX1_covers_5 (tgt := 12) (by decide) (pc' := 8) rfl (fun _ => ?_) (fun c5 => absurd c5 (by decide))
    refine g_iconst C (v := 0) dX1_covers_12 (by decide) rfl ?_
    exact ret _ _ _ _ dX1_covers_13 rfl (⟨Or.inr ⟨rfl, fun g => g hp2⟩, rfl⟩)
  · subst h9; subst er
    refine g_if_ne C dX1_covers_5 (tgt := 12) (by decide) (pc' := 8) rfl (fun c5 => absurd (by decide) c5) (fun _ => ?_)
    refine g_iconst C (v := 1) dX1_covers_8 (by decide) rfl ?_
    refine g_goto C dX1_covers_9 (tgt := 13) (by decide) ?_
    exact ret _ _ _ _ dX1_covers_13 rfl (⟨Or.inl ⟨rfl, hp2⟩, rfl⟩)
set_option maxHeartbeats 4000000 in
set_option maxRecDepth 100000 in
theorem k_X5_covers (l : Launch) (D : va_G) (b z : Nat) {h : qH} {a s : Nat} {tn : Nat → Int32} {sl : Int32} {rd : Nat → Int32} {dn : Int32} {wn : Nat} (hwn : wn < 3) (hOK : OlOK D h a s tn sl rd dn wn) {q : Nat} {c t p : Int32} (hKp : KpAt h q 5 c t p) : qMi l D b yX5_covers cX5_covers 2 .boolean 3 63 [.ref (q), .ref (a)] h z (fun r h' => ((r = 1 ∧ covQ 4 rd (F_step tn sl rd) wn c t) ∨ (r = 0 ∧ ¬ covQ 4 rd (F_step tn sl rd) wn c t)) ∧ h' = h) := by
  refine q_i (L := [(0, .ref (q)), (1, .ref (a))]) (own := RX5) (by decide) rfl (Nat.le_of_ble_eq_true rfl) rfl ?_
  intro X C ret
  obtain ⟨hOl, U, B, M, P, ⟨hU, hB, hM, hP⟩, hR, hRU⟩ := id hOK
  refine g_aload_n C 1 dX5_covers_0 rfl rfl rfl ?_
  refine g_iconst C (v := 1) dX5_covers_1 (by decide) rfl ?_
  refine g_callVi C (As := [.int (1)]) (q := (RX7, TX7, 8)) (k_X7_readingOf l D b z hOK.1 (k := 1) (by omega)) hw_5_9 (hOl.1) rfl (by decide) rfl rfl (Nat.le_of_ble_eq_true rfl) ⟨Nat.zero_le _, Nat.zero_le _⟩ dX5_covers_2 (pc' := 5) rfl ?_
  rintro r1 h9 ⟨er, e9⟩
  subst h9; subst er
  refine g_iconst C (v := -1) dX5_covers_5 (by decide) rfl ?_
  refine g_icmp_eq C dX5_covers_6 (tgt := 21) (by decide) (pc' := 9) rfl ?_ ?_
  · intro c6
    refine g_iconst C (v := 0) dX5_covers_21 (by decide) rfl ?_
    exact ret _ _ _ _ dX5_covers_22 rfl (⟨Or.inr ⟨rfl, fun g => g.1 c6⟩, rfl⟩)
  · intro c6
    refine g_aload_n C 0 dX5_covers_9 rfl rfl rfl ?_
    refine g_aload_n C 1 dX5_covers_10 rfl rfl rfl ?_
    refine g_callSUi C (As := [.ref (a)]) (q := (RX5, TX5, 3)) (k5_X1_covers l D b z hwn hOK hKp) hw_5_15 (hKp) rfl (by decide) rfl rfl (Nat.le_of_ble_eq_true rfl) ⟨Nat.zero_le _, Nat.zero_le _⟩ dX5_covers_11 (pc' := 14) rfl ?_
    rintro r2 h9 ⟨⟨er, hp11⟩ | ⟨er, hp11⟩, e9⟩
    · subst h9; subst er
      refine g_if_eq C dX5_covers_14 (tgt := 21) (by decide) (pc' := 17) rfl (fun c14 => absurd c14 (by decide)) (fun _ => ?_)
      refine g_iconst C (v := 1) dX5_covers_17 (by decide) rfl ?_
      refine g_goto C dX5_covers_18 (tgt := 22) (by decide) ?_
      exact ret _ _ _ _ dX5_covers_22 rfl (⟨Or.inl ⟨rfl, c6, hp11⟩, rfl⟩)
    · subst h9; subst er
      refine g_if_eq C dX5_covers_14 (tgt := 21) (by decide) (pc' := 17) rfl (fun _ => ?_) (fun c14 => absurd (by decide) c14)
      refine g_iconst C (v := 0) dX5_covers_21 (by decide) rfl ?_
      exact ret _ _ _ _ dX5_covers_22 rfl (⟨Or.inr ⟨rfl, fun g => hp11 g.2⟩, rfl⟩)
set_option maxHeartbeats 4000000 in
set_option maxRecDepth 100000 in
theorem k0_X4_payment (l : Launch) (D : va_G) (b z : Nat) {h : qH} {a s : Nat} {tn : Nat → Int32} {sl : Int32} {rd : Nat → Int32} {dn : Int32} {wn : Nat} (hwn : wn < 3) (hOK : OlOK D h a s tn sl rd dn wn) {q : Nat} {c t p : Int32} (hKp : KpAt h q 4 c t p) (f : Int32) : qMi l D b yX4_payment cX4_payment 3 .int 4 86 [.ref (q), .ref (a), .int (f)] h z (fun r h' => ((covQ 0 rd (F_step tn sl rd) wn c t ∧ r = c) ∨ (¬ covQ 0 rd (F_step tn sl rd) wn c t ∧ r = (if f = 1 then t else 0))) ∧ h' = h) := by
  refine q_i (L := [(0, .ref (q)), (1, .ref (a)), (2, .int (f))]) (own := RX4) (by decide) rfl (Nat.le_of_ble_eq_true rfl) rfl ?_
  intro X C ret
  obtain ⟨hOl, U, B, M, P, ⟨hU, hB, hM, hP⟩, hR, hRU⟩ := id hOK
  refine g_aload_n C 0 dX4_payment_0 rfl rfl rfl ?_
  refine g_aload_n C 1 dX4_payment_1 rfl rfl rfl ?_
  refine g_callVi C (As := [.ref (a)]) (q := (RX4, TX4, 3)) (k_X4_covers l D b z hwn hOK q c t) hw_4_24_4 (hKp) rfl (by decide) rfl rfl (Nat.le_of_ble_eq_true rfl) ⟨Nat.zero_le _, Nat.zero_le _⟩ dX4_payment_2 (pc' := 5) rfl ?_
  rintro r1 h9 ⟨⟨er, hp2⟩ | ⟨er, hp2⟩, e9⟩
  · subst h9; subst er
    refine g_if_eq C dX4_payment_5 (tgt := 13) (by decide) (pc' := 8) rfl (fun c5 => absurd c5 (by decide)) (fun _ => ?_)
    refine g_aload_n C 0 dX4_payment_8 rfl rfl rfl ?_
    refine gf_4_9_4 C (hKp) (v := .int (c)) rfl dX4_payment_9 rfl ?_
    exact ret _ _ _ _ dX4_payment_12 rfl (⟨Or.inl ⟨hp2, rfl⟩, rfl⟩)
  · subst h9; subst er
    refine g_if_eq C dX4_payment_5 (tgt := 13) (by decide) (pc' := 8) rfl (fun _ => ?_) (fun c5 => absurd (by decide) c5)
    refine g_iload_n C 2 dX4_payment_13 rfl rfl rfl ?_
    refine g_iconst C (v := 1) dX4_payment_14 (by decide) rfl ?_
    refine g_icmp_ne C dX4_payment_15 (tgt := 25) (by decide) (pc' := 18) rfl ?_ ?_
    · intro c15
      refine g_iconst C (v := 0) dX4_payment_25 (by decide) rfl ?_
      exact ret _ _ _ _ dX4_payment_26 rfl (⟨Or.inr ⟨hp2, by rw [if_neg c15]⟩, rfl⟩)
    · intro c15
      refine g_aload_n C 0 dX4_payment_18 rfl rfl rfl ?_
      refine gf_4_15_4 C (hKp) (v := .int (t)) rfl dX4_payment_19 rfl ?_
      refine g_goto C dX4_payment_22 (tgt := 26) (by decide) ?_
      exact ret _ _ _ _ dX4_payment_26 rfl (⟨Or.inr ⟨hp2, by rw [if_pos c15]⟩, rfl⟩)
set_option maxHeartbeats 4000000 in
set_option maxRecDepth 100000 in
theorem k1_X4_payment (l : Launch) (D : va_G) (b z : Nat) {h : qH} {a s : Nat} {tn : Nat → Int32} {sl : Int32} {rd : Nat → Int32} {dn : Int32} {wn : Nat} (hwn : wn < 3) (hOK : OlOK D h a s tn sl rd dn wn) {q : Nat} {c t p : Int32} (hKp : KpAt h q 2 c t p) (f : Int32) : qMi l D b yX4_payment cX4_payment 3 .int 4 86 [.ref (q), .ref (a), .int (f)] h z (fun r h' => ((covQ 1 rd (F_step tn sl rd) wn c t ∧ r = c) ∨ (¬ covQ 1 rd (F_step tn sl rd) wn c t ∧ r = (if f = 1 then t else 0))) ∧ h' = h) := by
  refine q_i (L := [(0, .ref (q)), (1, .ref (a)), (2, .int (f))]) (own := RX4) (by decide) rfl (Nat.le_of_ble_eq_true rfl) rfl ?_
  intro X C ret
  obtain ⟨hOl, U, B, M, P, ⟨hU, hB, hM, hP⟩, hR, hRU⟩ := id hOK
  refine g_aload_n C 0 dX4_payment_0 rfl rfl rfl ?_
  refine g_aload_n C 1 dX4_payment_1 rfl rfl rfl ?_
  refine g_callOi C (As := [.ref (a)]) (q := (RX2, TX2, 3)) (k_X2_covers l D b z hwn hOK hKp) hw_4_24_2 (hKp) rfl (by decide) rfl rfl (Nat.le_of_ble_eq_true rfl) ⟨Nat.zero_le _, Nat.zero_le _⟩ dX4_payment_2 (pc' := 5) rfl ?_
  rintro r1 h9 ⟨⟨er, hp2⟩ | ⟨er, hp2⟩, e9⟩
  · subst h9; subst er
    refine g_if_eq C dX4_payment_5 (tgt := 13) (by decide) (pc' := 8) rfl (fun c5 => absurd c5 (by decide)) (fun _ => ?_)
    refine g_aload_n C 0 dX4_payment_8 rfl rfl rfl ?_
    refine gf_4_9_2 C (hKp) (v := .int (c)) rfl dX4_payment_9 rfl ?_
    exact ret _ _ _ _ dX4_payment_12 rfl (⟨Or.inl ⟨hp2, rfl⟩, rfl⟩)
  · subst h9; subst er
    refine g_if_eq C dX4_payment_5 (tgt := 13) (by decide) (pc' := 8) rfl (fun _ => ?_) (fun c5 => absurd (by decide) c5)
    refine g_iload_n C 2 dX4_payment_13 rfl rfl rfl ?_
    refine g_iconst C (v := 1) dX4_payment_14 (by decide) rfl ?_
    refine g_icmp_ne C dX4_payment_15 (tgt := 25) (by decide) (pc' := 18) rfl ?_ ?_
    · intro c15
      refine g_iconst C (v := 0) dX4_payment_25 (by decide) rfl ?_
      exact ret _ _ _ _ dX4_payment_26 rfl (⟨Or.inr ⟨hp2, by rw [if_neg c15]⟩, rfl⟩)
    · intro c15
      refine g_aload_n C 0 dX4_payment_18 rfl rfl rfl ?_
      refine gf_4_15_2 C (hKp) (v := .int (t)) rfl dX4_payment_19 rfl ?_
      refine g_goto C dX4_payment_22 (tgt := 26) (by decide) ?_
      exact ret _ _ _ _ dX4_payment_26 rfl (⟨Or.inr ⟨hp2, by rw [if_pos c15]⟩, rfl⟩)
set_option maxHeartbeats 4000000 in
set_option maxRecDepth 100000 in
theorem k2_X4_payment (l : Launch) (D : va_G) (b z : Nat) {h : qH} {a s : Nat} {tn : Nat → Int32} {sl : Int32} {rd : Nat → Int32} {dn : Int32} {wn : Nat} (hwn : wn < 3) (hOK : OlOK D h a s tn sl rd dn wn) {q : Nat} {c t p : Int32} (hKp : KpAt h q 6 c t p) (f : Int32) : qMi l D b yX4_payment cX4_payment 3 .int 4 86 [.ref (q), .ref (a), .int (f)] h z (fun r h' => ((covQ 2 rd (F_step tn sl rd) wn c t ∧ r = c) ∨ (¬ covQ 2 rd (F_step tn sl rd) wn c t ∧ r = (if f = 1 then t else 0))) ∧ h' = h) := by
  refine q_i (L := [(0, .ref (q)), (1, .ref (a)), (2, .int (f))]) (own := RX4) (by decide) rfl (Nat.le_of_ble_eq_true rfl) rfl ?_
  intro X C ret
  obtain ⟨hOl, U, B, M, P, ⟨hU, hB, hM, hP⟩, hR, hRU⟩ := id hOK
  refine g_aload_n C 0 dX4_payment_0 rfl rfl rfl ?_
  refine g_aload_n C 1 dX4_payment_1 rfl rfl rfl ?_
  refine g_callOi C (As := [.ref (a)]) (q := (RX6, TX6, 3)) (k_X6_covers l D b z hwn hOK q c t) hw_4_24_6 (hKp) rfl (by decide) rfl rfl (Nat.le_of_ble_eq_true rfl) ⟨Nat.zero_le _, Nat.zero_le _⟩ dX4_payment_2 (pc' := 5) rfl ?_
  rintro r1 h9 ⟨⟨er, hp2⟩ | ⟨er, hp2⟩, e9⟩
  · subst h9; subst er
    refine g_if_eq C dX4_payment_5 (tgt := 13) (by decide) (pc' := 8) rfl (fun c5 => absurd c5 (by decide)) (fun _ => ?_)
    refine g_aload_n C 0 dX4_payment_8 rfl rfl rfl ?_
    refine gf_4_9_6 C (hKp) (v := .int (c)) rfl dX4_payment_9 rfl ?_
    exact ret _ _ _ _ dX4_payment_12 rfl (⟨Or.inl ⟨hp2, rfl⟩, rfl⟩)
  · subst h9; subst er
    refine g_if_eq C dX4_payment_5 (tgt := 13) (by decide) (pc' := 8) rfl (fun _ => ?_) (fun c5 => absurd (by decide) c5)
    refine g_iload_n C 2 dX4_payment_13 rfl rfl rfl ?_
    refine g_iconst C (v := 1) dX4_payment_14 (by decide) rfl ?_
    refine g_icmp_ne C dX4_payment_15 (tgt := 25) (by decide) (pc' := 18) rfl ?_ ?_
    · intro c15
      refine g_iconst C (v := 0) dX4_payment_25 (by decide) rfl ?_
      exact ret _ _ _ _ dX4_payment_26 rfl (⟨Or.inr ⟨hp2, by rw [if_neg c15]⟩, rfl⟩)
    · intro c15
      refine g_aload_n C 0 dX4_payment_18 rfl rfl rfl ?_
      refine gf_4_15_6 C (hKp) (v := .int (t)) rfl dX4_payment_19 rfl ?_
      refine g_goto C dX4_payment_22 (tgt := 26) (by decide) ?_
      exact ret _ _ _ _ dX4_payment_26 rfl (⟨Or.inr ⟨hp2, by rw [if_pos c15]⟩, rfl⟩)
set_option maxHeartbeats 4000000 in
set_option maxRecDepth 100000 in
theorem k3_X4_payment (l : Launch) (D : va_G) (b z : Nat) {h : qH} {a s : Nat} {tn : Nat → Int32} {sl : Int32} {rd : Nat → Int32} {dn : Int32} {wn : Nat} (hwn : wn < 3) (hOK : OlOK D h a s tn sl rd dn wn) {q : Nat} {c t p : Int32} (hKp : KpAt h q 1 c t p) (f : Int32) : qMi l D b yX4_payment cX4_payment 3 .int 4 86 [.ref (q), .ref (a), .int (f)] h z (fun r h' => ((covQ 3 rd (F_step tn sl rd) wn c t ∧ r = c) ∨ (¬ covQ 3 rd (F_step tn sl rd) wn c t ∧ r = (if f = 1 then t else 0))) ∧ h' = h) := by
  refine q_i (L := [(0, .ref (q)), (1, .ref (a)), (2, .int (f))]) (own := RX4) (by decide) rfl (Nat.le_of_ble_eq_true rfl) rfl ?_
  intro X C ret
  obtain ⟨hOl, U, B, M, P, ⟨hU, hB, hM, hP⟩, hR, hRU⟩ := id hOK
  refine g_aload_n C 0 dX4_payment_0 rfl rfl rfl ?_
  refine g_aload_n C 1 dX4_payment_1 rfl rfl rfl ?_
  refine g_callOi C (As := [.ref (a)]) (q := (RX1, TX1, 3)) (k1_X1_covers l D b z hwn hOK hKp) hw_4_24_1 (hKp) rfl (by decide) rfl rfl (Nat.le_of_ble_eq_true rfl) ⟨Nat.zero_le _, Nat.zero_le _⟩ dX4_payment_2 (pc' := 5) rfl ?_
  rintro r1 h9 ⟨⟨er, hp2⟩ | ⟨er, hp2⟩, e9⟩
  · subst h9; subst er
    refine g_if_eq C dX4_payment_5 (tgt := 13) (by decide) (pc' := 8) rfl (fun c5 => absurd c5 (by decide)) (fun _ => ?_)
    refine g_aload_n C 0 dX4_payment_8 rfl rfl rfl ?_
    refine gf_4_9_1 C (hKp) (v := .int (c)) rfl dX4_payment_9 rfl ?_
    exact ret _ _ _ _ dX4_payment_12 rfl (⟨Or.inl ⟨hp2, rfl⟩, rfl⟩)
  · subst h9; subst er
    refine g_if_eq C dX4_payment_5 (tgt := 13) (by decide) (pc' := 8) rfl (fun _ => ?_) (fun c5 => absurd (by decide) c5)
    refine g_iload_n C 2 dX4_payment_13 rfl rfl rfl ?_
    refine g_iconst C (v := 1) dX4_payment_14 (by decide) rfl ?_
    refine g_icmp_ne C dX4_payment_15 (tgt := 25) (by decide) (pc' := 18) rfl ?_ ?_
    · intro c15
      refine g_iconst C (v := 0) dX4_payment_25 (by decide) rfl ?_
      exact ret _ _ _ _ dX4_payment_26 rfl (⟨Or.inr ⟨hp2, by rw [if_neg c15]⟩, rfl⟩)
    · intro c15
      refine g_aload_n C 0 dX4_payment_18 rfl rfl rfl ?_
      refine gf_4_15_1 C (hKp) (v := .int (t)) rfl dX4_payment_19 rfl ?_
      refine g_goto C dX4_payment_22 (tgt := 26) (by decide) ?_
      exact ret _ _ _ _ dX4_payment_26 rfl (⟨Or.inr ⟨hp2, by rw [if_pos c15]⟩, rfl⟩)
set_option maxHeartbeats 4000000 in
set_option maxRecDepth 100000 in
theorem k4_X4_payment (l : Launch) (D : va_G) (b z : Nat) {h : qH} {a s : Nat} {tn : Nat → Int32} {sl : Int32} {rd : Nat → Int32} {dn : Int32} {wn : Nat} (hwn : wn < 3) (hOK : OlOK D h a s tn sl rd dn wn) {q : Nat} {c t p : Int32} (hKp : KpAt h q 5 c t p) (f : Int32) : qMi l D b yX4_payment cX4_payment 3 .int 4 86 [.ref (q), .ref (a), .int (f)] h z (fun r h' => ((covQ 4 rd (F_step tn sl rd) wn c t ∧ r = c) ∨ (¬ covQ 4 rd (F_step tn sl rd) wn c t ∧ r = (if f = 1 then t else 0))) ∧ h' = h) := by
  refine q_i (L := [(0, .ref (q)), (1, .ref (a)), (2, .int (f))]) (own := RX4) (by decide) rfl (Nat.le_of_ble_eq_true rfl) rfl ?_
  intro X C ret
  obtain ⟨hOl, U, B, M, P, ⟨hU, hB, hM, hP⟩, hR, hRU⟩ := id hOK
  refine g_aload_n C 0 dX4_payment_0 rfl rfl rfl ?_
  refine g_aload_n C 1 dX4_payment_1 rfl rfl rfl ?_
  refine g_callOi C (As := [.ref (a)]) (q := (RX5, TX5, 3)) (k_X5_covers l D b z hwn hOK hKp) hw_4_24_5 (hKp) rfl (by decide) rfl rfl (Nat.le_of_ble_eq_true rfl) ⟨Nat.zero_le _, Nat.zero_le _⟩ dX4_payment_2 (pc' := 5) rfl ?_
  rintro r1 h9 ⟨⟨er, hp2⟩ | ⟨er, hp2⟩, e9⟩
  · subst h9; subst er
    refine g_if_eq C dX4_payment_5 (tgt := 13) (by decide) (pc' := 8) rfl (fun c5 => absurd c5 (by decide)) (fun _ => ?_)
    refine g_aload_n C 0 dX4_payment_8 rfl rfl rfl ?_
    refine gf_4_9_5 C (hKp) (v := .int (c)) rfl dX4_payment_9 rfl ?_
    exact ret _ _ _ _ dX4_payment_12 rfl (⟨Or.inl ⟨hp2, rfl⟩, rfl⟩)
  · subst h9; subst er
    refine g_if_eq C dX4_payment_5 (tgt := 13) (by decide) (pc' := 8) rfl (fun _ => ?_) (fun c5 => absurd (by decide) c5)
    refine g_iload_n C 2 dX4_payment_13 rfl rfl rfl ?_
    refine g_iconst C (v := 1) dX4_payment_14 (by decide) rfl ?_
    refine g_icmp_ne C dX4_payment_15 (tgt := 25) (by decide) (pc' := 18) rfl ?_ ?_
    · intro c15
      refine g_iconst C (v := 0) dX4_payment_25 (by decide) rfl ?_
      exact ret _ _ _ _ dX4_payment_26 rfl (⟨Or.inr ⟨hp2, by rw [if_neg c15]⟩, rfl⟩)
    · intro c15
      refine g_aload_n C 0 dX4_payment_18 rfl rfl rfl ?_
      refine gf_4_15_5 C (hKp) (v := .int (t)) rfl dX4_payment_19 rfl ?_
      refine g_goto C dX4_payment_22 (tgt := 26) (by decide) ?_
      exact ret _ _ _ _ dX4_payment_26 rfl (⟨Or.inr ⟨hp2, by rw [if_pos c15]⟩, rfl⟩)
def lcgN (s : Nat) : Nat := (1103515245 * s + 12345) % 2147483648
def drN (t : Nat) : Nat := t / 65536 % 10
theorem lcgN_lt (s : Nat) : lcgN s < 2147483648 := Nat.mod_lt _ (by decide)
theorem lcg_eq {s : Nat} (hs : s < 2147483648) : (1103515245 : Int64) * lN s + 12345 - (1103515245 * lN s + 12345) / 2147483648 * 2147483648 = lN (lcgN s) := by
  have e : (1103515245 : Int64) * lN s + 12345 = lN (1103515245 * s + 12345) := (congrArg (· + (12345 : Int64)) (lN_mul 1103515245 s)).trans (lN_add _ 12345)
  rw [e]
  exact pk_lRem (b := 2147483648) (by omega) (by decide) (by decide)
theorem dr_eq {t : Nat} (ht : t < 2147483648) : (lN t / 65536 - lN t / 65536 / 10 * 10).toInt32 = nI (drN t) := by
  have e : lN t / 65536 = lN (t / 65536) := pk_lDiv (b := 65536) (by omega) (by decide) (by decide)
  rw [e]
  have e2 : lN (t / 65536) - lN (t / 65536) / 10 * 10 = lN (t / 65536 % 10) := pk_lRem (b := 10) (by omega) (by decide) (by decide)
  rw [e2]
  exact lN_i _
theorem drN_lt (t : Nat) : drN t < 10 := Nat.mod_lt _ (by decide)
set_option maxHeartbeats 4000000 in
set_option maxRecDepth 100000 in
theorem k_X10_draw (l : Launch) (D : va_G) (b z : Nat) {h : qH} {a s : Nat} {dr : Nat → Int32} {da : Int32} {sd : Nat} {wt pd sp : Int32} (hsd : sd < 2147483648) (hTr : TrAt D h a s dr da (lN sd) wt pd sp) : qMi l D b yX10_draw cX10_draw 1 .int 0 0 [.ref (a)] h z (fun r h' => (r = nI (drN (lcgN sd)) ∧ TrAt D h' a s dr da (lN (lcgN sd)) wt pd sp) ∧ ∀ q, ¬ q = a → h' q = h q) := by
  refine q_i (L := [(0, .ref (a))]) (own := RX10) (by decide) rfl (Nat.le_of_ble_eq_true rfl) rfl ?_
  intro X C ret
  have hO : ∀ q, (¬ q = a) → h q = h q := fun _ _ => rfl
  refine g_aload_n C 0 dX10_draw_0 rfl rfl rfl ?_
  refine g_ldc2 C kl_10_79 dX10_draw_1 rfl ?_
  refine g_aload_n C 0 dX10_draw_4 rfl rfl rfl ?_
  refine gf_10_33 C (hTr.1) (v := .long (lN sd)) rfl dX10_draw_5 rfl ?_
  refine g_lmul C dX10_draw_8 rfl ?_
  refine g_ldc2 C kl_10_81 dX10_draw_9 rfl ?_
  refine g_ladd C dX10_draw_12 rfl ?_
  refine g_ldc2 C kl_10_83 dX10_draw_13 rfl ?_
  refine g_lrem C dX10_draw_16 (by decide) rfl ?_
  refine g_topl (y := lN (lcgN sd)) (lcg_eq hsd) ?_
  refine pf_10_33 C (hTr.1) (v := .long (lN (lcgN sd))) rfl rfl (Nat.le_of_ble_eq_true rfl) dX10_draw_17 (pc' := 20) rfl (fun h1 e2 o3 => ?_)
  have hTr : TrAt D h1 (a) (s) (dr) (da) (lN (lcgN sd)) (wt) (pd) (sp) := ⟨e2, (o3 _ (by omega)).trans hTr.2⟩
  have hO : ∀ q, (¬ q = a) → h1 q = h q := fun q hq => (o3 q (by omega)).trans (hO q hq)
  refine g_aload_n C 0 dX10_draw_20 rfl rfl rfl ?_
  refine gf_10_33 C (hTr.1) (v := .long (lN (lcgN sd))) rfl dX10_draw_21 rfl ?_
  refine g_ldc2 C kl_10_85 dX10_draw_24 rfl ?_
  refine g_ldiv C dX10_draw_27 (by decide) rfl ?_
  refine g_ldc2 C kl_10_87 dX10_draw_28 rfl ?_
  refine g_lrem C dX10_draw_31 (by decide) rfl ?_
  refine g_l2i C dX10_draw_32 rfl ?_
  refine g_topi (y := nI (drN (lcgN sd))) (dr_eq (lcgN_lt sd)) ?_
  exact ret _ _ _ _ dX10_draw_33 rfl (⟨⟨rfl, hTr⟩, hO⟩)

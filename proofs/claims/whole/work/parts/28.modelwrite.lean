/-! the reference model: what writes -/
def MdlAt (D : va_G) (h : qH) (m : Nat) (σ : sg) : Prop := ∃ s18 s19 s20 s23 s24 s35 f21 f22, MdO h m σ s18 s19 s20 s23 s24 s35 ∧ MdR D h m σ f21 f22
theorem bn8 : ∀ j, j < 128 → (nI j).toInt8.toInt32 = nI j := by decide
theorem bn_of {j : Nat} (h : j < 128) : vp_nar .byte (nI j) = nI j := by rw [vp_nar_byte]; exact bn8 j h
set_option maxHeartbeats 4000000 in
set_option maxRecDepth 100000 in
theorem k_X12_letter (l : Launch) (D : va_G) (b z : Nat) {h : qH} {m : Nat} {σ : sg} {s18 s35 : Int64} {s19 s20 s23 s24 : Int32} {f21 f22 : Nat → Int32} (hM : MdO h m σ s18 s19 s20 s23 s24 s35) (hR : MdR D h m σ f21 f22) (h16 : gN σ 16 ≤ 16) (c : Int32) : qMi l D b yX12_letter cX12_letter 2 .int 1 22 [.ref (m), .int (c)] h z (fun r0 h' => (r0 = (oLetter σ c).1 ∧ MdlAt D h' m (oLetter σ c).2) ∧ ∀ q, (q < m ∨ m + 16 ≤ q) → h' q = h q) := by
  refine q_i (L := [(0, .ref (m)), (1, .int (c))]) (own := RX12) (by decide) rfl (Nat.le_of_ble_eq_true rfl) rfl ?_
  intro X C ret
  have hO : ∀ q, (q < m ∨ m + 16 ≤ q) → h q = h q := fun _ _ => rfl
  refine g_iload_n C 1 dX12_letter_0 rfl rfl rfl ?_
  refine g_bipush C (v := 32) dX12_letter_1 (by decide) rfl ?_
  refine g_bipush C (v := 126) dX12_letter_3 (by decide) rfl ?_
  refine g_callSi C (As := [.int (c), .int (32), .int (126)]) (k_X12_within l D b z h (c) (32) (126)) hw_12_56 (by decide) rfl rfl (Nat.le_of_ble_eq_true rfl) ⟨Nat.zero_le _, Nat.zero_le _⟩ dX12_letter_5 (pc' := 8) rfl ?_
  rintro r1 h9 ⟨⟨er, hp5⟩ | ⟨er, hp5⟩, e9⟩
  · subst h9; subst er
    have hp5 := (wit_in (lo := 32) (hi := 126) (x := c) (by decide) (by decide)).mp hp5
    have hp5_ := hp5
    obtain ⟨i, rfl, hp5a, hp5b⟩ := hp5_
    refine g_if_ne C dX12_letter_8 (tgt := 14) (by decide) (pc' := 11) rfl (fun _ => ?_) (fun c8 => absurd c8 (by decide))
    refine g_aload_n C 0 dX12_letter_14 rfl rfl rfl ?_
    refine gf_12_60 C (hM) (v := .int (nI (gN σ 16))) rfl dX12_letter_15 rfl ?_
    refine g_bipush C (v := 16) dX12_letter_18 (by decide) rfl ?_
    refine g_icmp_ne C dX12_letter_20 (tgt := 26) (by decide) (pc' := 23) rfl ?_ ?_
    · intro c20
      replace c20 := (not_congr (nI_eq (a := gN σ 16) (b := 16) (by omega) (by omega))).mp c20
      refine g_aload_n C 0 dX12_letter_26 rfl rfl rfl ?_
      refine gf_12_34 C (hM) (v := .ref (m + 9)) rfl dX12_letter_27 rfl ?_
      refine g_aload_n C 0 dX12_letter_30 rfl rfl rfl ?_
      refine gf_12_60 C (hM) (v := .int (nI (gN σ 16))) rfl dX12_letter_31 rfl ?_
      refine g_iload_n C 1 dX12_letter_34 rfl rfl rfl ?_
      refine g_i2b C dX12_letter_35 rfl ?_
      refine g_topi (y := nI i) (bn8 i (by omega)) ?_
      refine g_bast' C (hR.2.2.2.2.2.2.2.2.1) (j := gN σ 16) rfl (by omega) (by decide) dX12_letter_36 (pc' := 37) rfl (fun h2 e3 o4 => ?_)
      rw [bn_of (by omega)] at e3
      have hM : MdO h2 m (uB (σ) 17 (upd (gB σ 17) (gN σ 16) (nI (i)))) (s18) (s19) (s20) (s23) (s24) (s35) := (o4 _ (by omega)).trans hM
      have hR : MdR D h2 m (uB (σ) 17 (upd (gB σ 17) (gN σ 16) (nI (i)))) (f21) (f22) := ⟨(o4 _ (by omega)).trans hR.1, (o4 _ (by omega)).trans hR.2.1, (o4 _ (by omega)).trans hR.2.2.1, (o4 _ (by omega)).trans hR.2.2.2.1, (o4 _ (by omega)).trans hR.2.2.2.2.1, (o4 _ (by omega)).trans hR.2.2.2.2.2.1, (o4 _ (by omega)).trans hR.2.2.2.2.2.2.1, (o4 _ (by omega)).trans hR.2.2.2.2.2.2.2.1, e3, (o4 _ (by omega)).trans hR.2.2.2.2.2.2.2.2.2.1, (o4 _ (by omega)).trans hR.2.2.2.2.2.2.2.2.2.2.1, (o4 _ (by omega)).trans hR.2.2.2.2.2.2.2.2.2.2.2.1, (o4 _ (by omega)).trans hR.2.2.2.2.2.2.2.2.2.2.2.2.1, (o4 _ (by omega)).trans hR.2.2.2.2.2.2.2.2.2.2.2.2.2.1, (o4 _ (by omega)).trans hR.2.2.2.2.2.2.2.2.2.2.2.2.2.2⟩
      have hO : ∀ q, (q < m ∨ m + 16 ≤ q) → h2 q = h q := fun q hq => (o4 q (by omega)).trans (hO q hq)
      refine g_aload_n C 0 dX12_letter_37 rfl rfl rfl ?_
      refine g_dup C rfl dX12_letter_38 rfl ?_
      refine gf_12_60 C (hM) (v := .int (nI (gN σ 16))) rfl dX12_letter_39 rfl ?_
      refine g_iconst C (v := 1) dX12_letter_42 (by decide) rfl ?_
      refine g_iadd C dX12_letter_43 rfl ?_
      refine g_topi (y := nI (gN σ 16 + 1)) (nI_add _ _) ?_
      refine pf_12_60 C (hM) (v := .int (nI ((gN σ 16 + 1)))) rfl rfl (Nat.le_of_ble_eq_true rfl) dX12_letter_44 (pc' := 47) rfl (fun h5 e6 o7 => ?_)
      have hM : MdO h5 m (uN (uB (σ) 17 (upd (gB σ 17) (gN σ 16) (nI (i)))) 16 ((gN σ 16 + 1))) (s18) (s19) (s20) (s23) (s24) (s35) := e6
      have hR : MdR D h5 m (uN (uB (σ) 17 (upd (gB σ 17) (gN σ 16) (nI (i)))) 16 ((gN σ 16 + 1))) (f21) (f22) := hR.fr (fun q g1 g2 => o7 q (by omega))
      have hO : ∀ q, (q < m ∨ m + 16 ≤ q) → h5 q = h q := fun q hq => (o7 q (by omega)).trans (hO q hq)
      refine g_aload_n C 0 dX12_letter_47 rfl rfl rfl ?_
      refine gf_12_60 C (hM) (v := .int (nI ((gN σ 16 + 1)))) rfl dX12_letter_48 rfl ?_
      exact ret _ _ _ _ dX12_letter_51 rfl (⟨by unfold oLetter; rw [if_pos ⟨((wit_in (lo := 32) (hi := 126) (by decide) (by decide)).mpr hp5).1, Int32.not_lt.mp ((wit_in (lo := 32) (hi := 126) (by decide) (by decide)).mpr hp5).2⟩, if_pos (by omega)]; exact ⟨rfl, ⟨_, _, _, _, _, _, _, _, hM, hR⟩⟩, hO⟩)
    · intro c20
      replace c20 := (nI_eq (a := gN σ 16) (b := 16) (by omega) (by omega)).mp c20
      refine g_bipush C (v := -104) dX12_letter_23 (by decide) rfl ?_
      exact ret _ _ _ _ dX12_letter_25 rfl (⟨by unfold oLetter; rw [if_pos ⟨((wit_in (lo := 32) (hi := 126) (by decide) (by decide)).mpr hp5).1, Int32.not_lt.mp ((wit_in (lo := 32) (hi := 126) (by decide) (by decide)).mpr hp5).2⟩, if_neg (by omega)]; exact ⟨rfl, ⟨_, _, _, _, _, _, _, _, hM, hR⟩⟩, fun _ _ => rfl⟩)
  · subst h9; subst er
    have hp5 := (not_congr (wit_in (lo := 32) (hi := 126) (x := c) (by decide) (by decide))).mp hp5
    refine g_if_ne C dX12_letter_8 (tgt := 14) (by decide) (pc' := 11) rfl (fun c8 => absurd (by decide) c8) (fun _ => ?_)
    refine g_bipush C (v := -102) dX12_letter_11 (by decide) rfl ?_
    exact ret _ _ _ _ dX12_letter_13 rfl (⟨by unfold oLetter; rw [if_neg (fun g => hp5 ((wit_in (lo := 32) (hi := 126) (by decide) (by decide)).mp ⟨g.1, Int32.not_lt.mpr g.2⟩))]; exact ⟨rfl, ⟨_, _, _, _, _, _, _, _, hM, hR⟩⟩, fun _ _ => rfl⟩)
set_option maxHeartbeats 4000000 in
set_option maxRecDepth 100000 in
theorem k_X12_blank (l : Launch) (D : va_G) (b z : Nat) {h : qH} {m : Nat} {σ : sg} {s18 s35 : Int64} {s19 s20 s23 s24 : Int32} {f21 f22 : Nat → Int32} (hM : MdO h m σ s18 s19 s20 s23 s24 s35) (hR : MdR D h m σ f21 f22)  : qMi l D b yX12_blank cX12_blank 2 .int 0 0 [.ref (m)] h z (fun r0 h' => (r0 = (oBlank σ).1 ∧ MdlAt D h' m (oBlank σ).2) ∧ ∀ q, (q < m ∨ m + 16 ≤ q) → h' q = h q) := by
  refine q_i (L := [(0, .ref (m))]) (own := RX12) (by decide) rfl (Nat.le_of_ble_eq_true rfl) rfl ?_
  intro X C ret
  have hO : ∀ q, (q < m ∨ m + 16 ≤ q) → h q = h q := fun _ _ => rfl
  refine g_aload_n C 0 dX12_blank_0 rfl rfl rfl ?_
  refine gf_12_60 C (hM) (v := .int (nI (gN σ 16))) rfl dX12_blank_1 rfl ?_
  refine g_istore_n C ([(1, .int (nI (gN σ 16))), (0, .ref (m))]) dX12_blank_4 rfl (by decide) rfl rfl ?_
  refine g_aload_n C 1 dX12_blank_5 rfl rfl rfl ?_
  refine g_iconst C (v := 0) dX12_blank_6 (by decide) rfl ?_
  refine pf_12_60 C (hM) (v := .int (0)) rfl rfl (Nat.le_of_ble_eq_true rfl) dX12_blank_7 (pc' := 10) rfl (fun h1 e2 o3 => ?_)
  have hM : MdO h1 m (uN (σ) 16 (0)) (s18) (s19) (s20) (s23) (s24) (s35) := e2
  have hR : MdR D h1 m (uN (σ) 16 (0)) (f21) (f22) := hR.fr (fun q g1 g2 => o3 q (by omega))
  have hO : ∀ q, (q < m ∨ m + 16 ≤ q) → h1 q = h q := fun q hq => (o3 q (by omega)).trans (hO q hq)
  refine g_iload_n C 0 dX12_blank_10 rfl rfl rfl ?_
  exact ret _ _ _ _ dX12_blank_11 rfl (⟨⟨rfl, ⟨_, _, _, _, _, _, _, _, hM, hR⟩⟩, hO⟩)
set_option maxHeartbeats 4000000 in
set_option maxRecDepth 100000 in
theorem k_X12_forget (l : Launch) (D : va_G) (b z : Nat) {h : qH} {m : Nat} {σ : sg} {s18 s35 : Int64} {s19 s20 s23 s24 : Int32} {f21 f22 : Nat → Int32} (hM : MdO h m σ s18 s19 s20 s23 s24 s35) (hR : MdR D h m σ f21 f22)  : qMi l D b yX12_forget cX12_forget 2 .int 0 0 [.ref (m)] h z (fun r0 h' => (r0 = (oForget σ).1 ∧ MdlAt D h' m (oForget σ).2) ∧ ∀ q, (q < m ∨ m + 16 ≤ q) → h' q = h q) := by
  refine q_i (L := [(0, .ref (m))]) (own := RX12) (by decide) rfl (Nat.le_of_ble_eq_true rfl) rfl ?_
  intro X C ret
  have hO : ∀ q, (q < m ∨ m + 16 ≤ q) → h q = h q := fun _ _ => rfl
  refine g_aload_n C 0 dX12_forget_0 rfl rfl rfl ?_
  refine gf_12_98 C (hM) (v := .int (nI (gN σ 13))) rfl dX12_forget_1 rfl ?_
  refine g_istore_n C ([(1, .int (nI (gN σ 13))), (0, .ref (m))]) dX12_forget_4 rfl (by decide) rfl rfl ?_
  refine g_aload_n C 1 dX12_forget_5 rfl rfl rfl ?_
  refine g_iconst C (v := 0) dX12_forget_6 (by decide) rfl ?_
  refine pf_12_98 C (hM) (v := .int (0)) rfl rfl (Nat.le_of_ble_eq_true rfl) dX12_forget_7 (pc' := 10) rfl (fun h1 e2 o3 => ?_)
  have hM : MdO h1 m (uN (σ) 13 (0)) (s18) (s19) (s20) (s23) (s24) (s35) := e2
  have hR : MdR D h1 m (uN (σ) 13 (0)) (f21) (f22) := hR.fr (fun q g1 g2 => o3 q (by omega))
  have hO : ∀ q, (q < m ∨ m + 16 ≤ q) → h1 q = h q := fun q hq => (o3 q (by omega)).trans (hO q hq)
  refine g_iload_n C 0 dX12_forget_10 rfl rfl rfl ?_
  exact ret _ _ _ _ dX12_forget_11 rfl (⟨⟨rfl, ⟨_, _, _, _, _, _, _, _, hM, hR⟩⟩, hO⟩)
set_option maxHeartbeats 4000000 in
set_option maxRecDepth 100000 in
theorem k_X12_book (l : Launch) (D : va_G) (b z : Nat) {h : qH} {m : Nat} {σ : sg} {s18 s35 : Int64} {s19 s20 s23 s24 : Int32} {f21 f22 : Nat → Int32} (hM : MdO h m σ s18 s19 s20 s23 s24 s35) (hR : MdR D h m σ f21 f22) (h13 : gN σ 13 ≤ 12) (v w : Int32) : qMi l D b yX12_book cX12_book 3 .int 2 42 [.ref (m), .int (v), .int (w)] h z (fun r0 h' => (r0 = (oBook σ v w).1 ∧ MdlAt D h' m (oBook σ v w).2) ∧ ∀ q, (q < m ∨ m + 16 ≤ q) → h' q = h q) := by
  refine q_i (L := [(0, .ref (m)), (1, .int (v)), (2, .int (w))]) (own := RX12) (by decide) rfl (Nat.le_of_ble_eq_true rfl) rfl ?_
  intro X C ret
  have hO : ∀ q, (q < m ∨ m + 16 ≤ q) → h q = h q := fun _ _ => rfl
  refine g_iload_n C 1 dX12_book_0 rfl rfl rfl ?_
  refine g_callSi C (As := [.int (v)]) (k_X12_isWeather l D b z h (v)) hw_12_101 (by decide) rfl rfl (Nat.le_of_ble_eq_true rfl) ⟨Nat.zero_le _, Nat.zero_le _⟩ dX12_book_1 (pc' := 4) rfl ?_
  rintro r1 h9 ⟨⟨er, hp1⟩ | ⟨er, hp1⟩, e9⟩
  · subst h9; subst er
    have hp1_ := hp1
    obtain ⟨i, rfl, hp1a, hp1b⟩ := hp1_
    refine g_if_eq C dX12_book_4 (tgt := 19) (by decide) (pc' := 7) rfl (fun c4 => absurd c4 (by decide)) (fun _ => ?_)
    refine g_iload_n C 2 dX12_book_7 rfl rfl rfl ?_
    refine g_iconst C (v := -1) dX12_book_8 (by decide) rfl ?_
    refine g_icmp_eq C dX12_book_9 (tgt := 22) (by decide) (pc' := 12) rfl ?_ ?_
    · intro c9
      refine g_aload_n C 0 dX12_book_22 rfl rfl rfl ?_
      refine gf_12_98 C (hM) (v := .int (nI (gN σ 13))) rfl dX12_book_23 rfl ?_
      refine g_bipush C (v := 12) dX12_book_26 (by decide) rfl ?_
      refine g_icmp_ne C dX12_book_28 (tgt := 34) (by decide) (pc' := 31) rfl ?_ ?_
      · intro c28
        replace c28 := (not_congr (nI_eq (a := gN σ 13) (b := 12) (by omega) (by omega))).mp c28
        refine g_aload_n C 0 dX12_book_34 rfl rfl rfl ?_
        refine gf_12_28 C (hM) (v := .ref (m + 7)) rfl dX12_book_35 rfl ?_
        refine g_aload_n C 0 dX12_book_38 rfl rfl rfl ?_
        refine gf_12_98 C (hM) (v := .int (nI (gN σ 13))) rfl dX12_book_39 rfl ?_
        refine g_iload_n C 1 dX12_book_42 rfl rfl rfl ?_
        refine g_iast' C (hR.2.2.2.2.2.2.1) (j := gN σ 13) rfl (by omega) (by decide) dX12_book_43 (pc' := 44) rfl (fun h2 e3 o4 => ?_)
        have hM : MdO h2 m (uB (σ) 14 (upd (gB σ 14) (gN σ 13) (nI (i)))) (s18) (s19) (s20) (s23) (s24) (s35) := (o4 _ (by omega)).trans hM
        have hR : MdR D h2 m (uB (σ) 14 (upd (gB σ 14) (gN σ 13) (nI (i)))) (f21) (f22) := ⟨(o4 _ (by omega)).trans hR.1, (o4 _ (by omega)).trans hR.2.1, (o4 _ (by omega)).trans hR.2.2.1, (o4 _ (by omega)).trans hR.2.2.2.1, (o4 _ (by omega)).trans hR.2.2.2.2.1, (o4 _ (by omega)).trans hR.2.2.2.2.2.1, e3, (o4 _ (by omega)).trans hR.2.2.2.2.2.2.2.1, (o4 _ (by omega)).trans hR.2.2.2.2.2.2.2.2.1, (o4 _ (by omega)).trans hR.2.2.2.2.2.2.2.2.2.1, (o4 _ (by omega)).trans hR.2.2.2.2.2.2.2.2.2.2.1, (o4 _ (by omega)).trans hR.2.2.2.2.2.2.2.2.2.2.2.1, (o4 _ (by omega)).trans hR.2.2.2.2.2.2.2.2.2.2.2.2.1, (o4 _ (by omega)).trans hR.2.2.2.2.2.2.2.2.2.2.2.2.2.1, (o4 _ (by omega)).trans hR.2.2.2.2.2.2.2.2.2.2.2.2.2.2⟩
        have hO : ∀ q, (q < m ∨ m + 16 ≤ q) → h2 q = h q := fun q hq => (o4 q (by omega)).trans (hO q hq)
        refine g_aload_n C 0 dX12_book_44 rfl rfl rfl ?_
        refine gf_12_31 C (hM) (v := .ref (m + 8)) rfl dX12_book_45 rfl ?_
        refine g_aload_n C 0 dX12_book_48 rfl rfl rfl ?_
        refine gf_12_98 C (hM) (v := .int (nI (gN σ 13))) rfl dX12_book_49 rfl ?_
        refine g_iload_n C 2 dX12_book_52 rfl rfl rfl ?_
        refine g_iast' C (hR.2.2.2.2.2.2.2.1) (j := gN σ 13) rfl (by omega) (by decide) dX12_book_53 (pc' := 54) rfl (fun h5 e6 o7 => ?_)
        have hM : MdO h5 m (uB (uB (σ) 14 (upd (gB σ 14) (gN σ 13) (nI (i)))) 15 (upd (gB σ 15) (gN σ 13) (w))) (s18) (s19) (s20) (s23) (s24) (s35) := (o7 _ (by omega)).trans hM
        have hR : MdR D h5 m (uB (uB (σ) 14 (upd (gB σ 14) (gN σ 13) (nI (i)))) 15 (upd (gB σ 15) (gN σ 13) (w))) (f21) (f22) := ⟨(o7 _ (by omega)).trans hR.1, (o7 _ (by omega)).trans hR.2.1, (o7 _ (by omega)).trans hR.2.2.1, (o7 _ (by omega)).trans hR.2.2.2.1, (o7 _ (by omega)).trans hR.2.2.2.2.1, (o7 _ (by omega)).trans hR.2.2.2.2.2.1, (o7 _ (by omega)).trans hR.2.2.2.2.2.2.1, e6, (o7 _ (by omega)).trans hR.2.2.2.2.2.2.2.2.1, (o7 _ (by omega)).trans hR.2.2.2.2.2.2.2.2.2.1, (o7 _ (by omega)).trans hR.2.2.2.2.2.2.2.2.2.2.1, (o7 _ (by omega)).trans hR.2.2.2.2.2.2.2.2.2.2.2.1, (o7 _ (by omega)).trans hR.2.2.2.2.2.2.2.2.2.2.2.2.1, (o7 _ (by omega)).trans hR.2.2.2.2.2.2.2.2.2.2.2.2.2.1, (o7 _ (by omega)).trans hR.2.2.2.2.2.2.2.2.2.2.2.2.2.2⟩
        have hO : ∀ q, (q < m ∨ m + 16 ≤ q) → h5 q = h q := fun q hq => (o7 q (by omega)).trans (hO q hq)
        refine g_aload_n C 0 dX12_book_54 rfl rfl rfl ?_
        refine g_dup C rfl dX12_book_55 rfl ?_
        refine gf_12_98 C (hM) (v := .int (nI (gN σ 13))) rfl dX12_book_56 rfl ?_
        refine g_iconst C (v := 1) dX12_book_59 (by decide) rfl ?_
        refine g_iadd C dX12_book_60 rfl ?_
        refine g_topi (y := nI (gN σ 13 + 1)) (nI_add _ _) ?_
        refine pf_12_98 C (hM) (v := .int (nI ((gN σ 13 + 1)))) rfl rfl (Nat.le_of_ble_eq_true rfl) dX12_book_61 (pc' := 64) rfl (fun h8 e9 o10 => ?_)
        have hM : MdO h8 m (uN (uB (uB (σ) 14 (upd (gB σ 14) (gN σ 13) (nI (i)))) 15 (upd (gB σ 15) (gN σ 13) (w))) 13 ((gN σ 13 + 1))) (s18) (s19) (s20) (s23) (s24) (s35) := e9
        have hR : MdR D h8 m (uN (uB (uB (σ) 14 (upd (gB σ 14) (gN σ 13) (nI (i)))) 15 (upd (gB σ 15) (gN σ 13) (w))) 13 ((gN σ 13 + 1))) (f21) (f22) := hR.fr (fun q g1 g2 => o10 q (by omega))
        have hO : ∀ q, (q < m ∨ m + 16 ≤ q) → h8 q = h q := fun q hq => (o10 q (by omega)).trans (hO q hq)
        refine g_aload_n C 0 dX12_book_64 rfl rfl rfl ?_
        refine gf_12_98 C (hM) (v := .int (nI ((gN σ 13 + 1)))) rfl dX12_book_65 rfl ?_
        exact ret _ _ _ _ dX12_book_68 rfl (⟨by unfold oBook; rw [cIf_t ⟨hp1, Or.inl c9⟩, if_pos (by omega)]; exact ⟨rfl, ⟨_, _, _, _, _, _, _, _, hM, hR⟩⟩, hO⟩)
      · intro c28
        replace c28 := (nI_eq (a := gN σ 13) (b := 12) (by omega) (by omega)).mp c28
        refine g_bipush C (v := -104) dX12_book_31 (by decide) rfl ?_
        exact ret _ _ _ _ dX12_book_33 rfl (⟨by unfold oBook; rw [cIf_t ⟨hp1, Or.inl c9⟩, if_neg (by omega)]; exact ⟨rfl, ⟨_, _, _, _, _, _, _, _, hM, hR⟩⟩, fun _ _ => rfl⟩)
    · intro c9
      refine g_iload_n C 2 dX12_book_12 rfl rfl rfl ?_
      refine g_callSi C (As := [.int (w)]) (k_X12_isWeather l D b z h (w)) hw_12_101 (by decide) rfl rfl (Nat.le_of_ble_eq_true rfl) ⟨Nat.zero_le _, Nat.zero_le _⟩ dX12_book_13 (pc' := 16) rfl ?_
      rintro r11 h9 ⟨⟨er, hp13⟩ | ⟨er, hp13⟩, e9⟩
      · subst h9; subst er
        have hp13_ := hp13
        obtain ⟨j, rfl, hp13a, hp13b⟩ := hp13_
        refine g_if_ne C dX12_book_16 (tgt := 22) (by decide) (pc' := 19) rfl (fun _ => ?_) (fun c16 => absurd c16 (by decide))
        refine g_aload_n C 0 dX12_book_22 rfl rfl rfl ?_
        refine gf_12_98 C (hM) (v := .int (nI (gN σ 13))) rfl dX12_book_23 rfl ?_
        refine g_bipush C (v := 12) dX12_book_26 (by decide) rfl ?_
        refine g_icmp_ne C dX12_book_28 (tgt := 34) (by decide) (pc' := 31) rfl ?_ ?_
        · intro c28
          replace c28 := (not_congr (nI_eq (a := gN σ 13) (b := 12) (by omega) (by omega))).mp c28
          refine g_aload_n C 0 dX12_book_34 rfl rfl rfl ?_
          refine gf_12_28 C (hM) (v := .ref (m + 7)) rfl dX12_book_35 rfl ?_
          refine g_aload_n C 0 dX12_book_38 rfl rfl rfl ?_
          refine gf_12_98 C (hM) (v := .int (nI (gN σ 13))) rfl dX12_book_39 rfl ?_
          refine g_iload_n C 1 dX12_book_42 rfl rfl rfl ?_
          refine g_iast' C (hR.2.2.2.2.2.2.1) (j := gN σ 13) rfl (by omega) (by decide) dX12_book_43 (pc' := 44) rfl (fun h12 e13 o14 => ?_)
          have hM : MdO h12 m (uB (σ) 14 (upd (gB σ 14) (gN σ 13) (nI (i)))) (s18) (s19) (s20) (s23) (s24) (s35) := (o14 _ (by omega)).trans hM
          have hR : MdR D h12 m (uB (σ) 14 (upd (gB σ 14) (gN σ 13) (nI (i)))) (f21) (f22) := ⟨(o14 _ (by omega)).trans hR.1, (o14 _ (by omega)).trans hR.2.1, (o14 _ (by omega)).trans hR.2.2.1, (o14 _ (by omega)).trans hR.2.2.2.1, (o14 _ (by omega)).trans hR.2.2.2.2.1, (o14 _ (by omega)).trans hR.2.2.2.2.2.1, e13, (o14 _ (by omega)).trans hR.2.2.2.2.2.2.2.1, (o14 _ (by omega)).trans hR.2.2.2.2.2.2.2.2.1, (o14 _ (by omega)).trans hR.2.2.2.2.2.2.2.2.2.1, (o14 _ (by omega)).trans hR.2.2.2.2.2.2.2.2.2.2.1, (o14 _ (by omega)).trans hR.2.2.2.2.2.2.2.2.2.2.2.1, (o14 _ (by omega)).trans hR.2.2.2.2.2.2.2.2.2.2.2.2.1, (o14 _ (by omega)).trans hR.2.2.2.2.2.2.2.2.2.2.2.2.2.1, (o14 _ (by omega)).trans hR.2.2.2.2.2.2.2.2.2.2.2.2.2.2⟩
          have hO : ∀ q, (q < m ∨ m + 16 ≤ q) → h12 q = h q := fun q hq => (o14 q (by omega)).trans (hO q hq)
          refine g_aload_n C 0 dX12_book_44 rfl rfl rfl ?_
          refine gf_12_31 C (hM) (v := .ref (m + 8)) rfl dX12_book_45 rfl ?_
          refine g_aload_n C 0 dX12_book_48 rfl rfl rfl ?_
          refine gf_12_98 C (hM) (v := .int (nI (gN σ 13))) rfl dX12_book_49 rfl ?_
          refine g_iload_n C 2 dX12_book_52 rfl rfl rfl ?_
          refine g_iast' C (hR.2.2.2.2.2.2.2.1) (j := gN σ 13) rfl (by omega) (by decide) dX12_book_53 (pc' := 54) rfl (fun h15 e16 o17 => ?_)
          have hM : MdO h15 m (uB (uB (σ) 14 (upd (gB σ 14) (gN σ 13) (nI (i)))) 15 (upd (gB σ 15) (gN σ 13) (nI (j)))) (s18) (s19) (s20) (s23) (s24) (s35) := (o17 _ (by omega)).trans hM
          have hR : MdR D h15 m (uB (uB (σ) 14 (upd (gB σ 14) (gN σ 13) (nI (i)))) 15 (upd (gB σ 15) (gN σ 13) (nI (j)))) (f21) (f22) := ⟨(o17 _ (by omega)).trans hR.1, (o17 _ (by omega)).trans hR.2.1, (o17 _ (by omega)).trans hR.2.2.1, (o17 _ (by omega)).trans hR.2.2.2.1, (o17 _ (by omega)).trans hR.2.2.2.2.1, (o17 _ (by omega)).trans hR.2.2.2.2.2.1, (o17 _ (by omega)).trans hR.2.2.2.2.2.2.1, e16, (o17 _ (by omega)).trans hR.2.2.2.2.2.2.2.2.1, (o17 _ (by omega)).trans hR.2.2.2.2.2.2.2.2.2.1, (o17 _ (by omega)).trans hR.2.2.2.2.2.2.2.2.2.2.1, (o17 _ (by omega)).trans hR.2.2.2.2.2.2.2.2.2.2.2.1, (o17 _ (by omega)).trans hR.2.2.2.2.2.2.2.2.2.2.2.2.1, (o17 _ (by omega)).trans hR.2.2.2.2.2.2.2.2.2.2.2.2.2.1, (o17 _ (by omega)).trans hR.2.2.2.2.2.2.2.2.2.2.2.2.2.2⟩
          have hO : ∀ q, (q < m ∨ m + 16 ≤ q) → h15 q = h q := fun q hq => (o17 q (by omega)).trans (hO q hq)
          refine g_aload_n C 0 dX12_book_54 rfl rfl rfl ?_
          refine g_dup C rfl dX12_book_55 rfl ?_
          refine gf_12_98 C (hM) (v := .int (nI (gN σ 13))) rfl dX12_book_56 rfl ?_
          refine g_iconst C (v := 1) dX12_book_59 (by decide) rfl ?_
          refine g_iadd C dX12_book_60 rfl ?_
          refine g_topi (y := nI (gN σ 13 + 1)) (nI_add _ _) ?_
          refine pf_12_98 C (hM) (v := .int (nI ((gN σ 13 + 1)))) rfl rfl (Nat.le_of_ble_eq_true rfl) dX12_book_61 (pc' := 64) rfl (fun h18 e19 o20 => ?_)
          have hM : MdO h18 m (uN (uB (uB (σ) 14 (upd (gB σ 14) (gN σ 13) (nI (i)))) 15 (upd (gB σ 15) (gN σ 13) (nI (j)))) 13 ((gN σ 13 + 1))) (s18) (s19) (s20) (s23) (s24) (s35) := e19
          have hR : MdR D h18 m (uN (uB (uB (σ) 14 (upd (gB σ 14) (gN σ 13) (nI (i)))) 15 (upd (gB σ 15) (gN σ 13) (nI (j)))) 13 ((gN σ 13 + 1))) (f21) (f22) := hR.fr (fun q g1 g2 => o20 q (by omega))
          have hO : ∀ q, (q < m ∨ m + 16 ≤ q) → h18 q = h q := fun q hq => (o20 q (by omega)).trans (hO q hq)
          refine g_aload_n C 0 dX12_book_64 rfl rfl rfl ?_
          refine gf_12_98 C (hM) (v := .int (nI ((gN σ 13 + 1)))) rfl dX12_book_65 rfl ?_
          exact ret _ _ _ _ dX12_book_68 rfl (⟨by unfold oBook; rw [cIf_t ⟨hp1, Or.inr hp13⟩, if_pos (by omega)]; exact ⟨rfl, ⟨_, _, _, _, _, _, _, _, hM, hR⟩⟩, hO⟩)
        · intro c28
          replace c28 := (nI_eq (a := gN σ 13) (b := 12) (by omega) (by omega)).mp c28
          refine g_bipush C (v := -104) dX12_book_31 (by decide) rfl ?_
          exact ret _ _ _ _ dX12_book_33 rfl (⟨by unfold oBook; rw [cIf_t ⟨hp1, Or.inr hp13⟩, if_neg (by omega)]; exact ⟨rfl, ⟨_, _, _, _, _, _, _, _, hM, hR⟩⟩, fun _ _ => rfl⟩)
      · subst h9; subst er
        refine g_if_ne C dX12_book_16 (tgt := 22) (by decide) (pc' := 19) rfl (fun c16 => absurd (by decide) c16) (fun _ => ?_)
        refine g_bipush C (v := -101) dX12_book_19 (by decide) rfl ?_
        exact ret _ _ _ _ dX12_book_21 rfl (⟨by unfold oBook; rw [cIf_f (fun g => g.2.elim c9 hp13)]; exact ⟨rfl, ⟨_, _, _, _, _, _, _, _, hM, hR⟩⟩, fun _ _ => rfl⟩)
  · subst h9; subst er
    refine g_if_eq C dX12_book_4 (tgt := 19) (by decide) (pc' := 7) rfl (fun _ => ?_) (fun c4 => absurd (by decide) c4)
    refine g_bipush C (v := -101) dX12_book_19 (by decide) rfl ?_
    exact ret _ _ _ _ dX12_book_21 rfl (⟨by unfold oBook; rw [cIf_f (fun g => hp1 g.1)]; exact ⟨rfl, ⟨_, _, _, _, _, _, _, _, hM, hR⟩⟩, fun _ _ => rfl⟩)
set_option maxHeartbeats 4000000 in
set_option maxRecDepth 100000 in
theorem k_X12_person (l : Launch) (D : va_G) (b z : Nat) {h : qH} {m : Nat} {σ : sg} {s18 s35 : Int64} {s19 s20 s23 s24 : Int32} {f21 f22 : Nat → Int32} (hM : MdO h m σ s18 s19 s20 s23 s24 s35) (hR : MdR D h m σ f21 f22) (h0 : gN σ 0 ≤ 1) (h03 : gN σ 0 = 1 ↔ 1 ≤ gN σ 3) (h8 : gN σ 8 ≤ 4) (k c t : Int32) : qMi l D b yX12_person cX12_person 4 .int 1 22 [.ref (m), .int (k), .int (c), .int (t)] h z (fun r0 h' => (r0 = (oPerson σ k c t).1 ∧ MdlAt D h' m (oPerson σ k c t).2) ∧ ∀ q, (q < m ∨ m + 16 ≤ q) → h' q = h q) := by
  refine q_i (L := [(0, .ref (m)), (1, .int (k)), (2, .int (c)), (3, .int (t))]) (own := RX12) (by decide) rfl (Nat.le_of_ble_eq_true rfl) rfl ?_
  intro X C ret
  have hO : ∀ q, (q < m ∨ m + 16 ≤ q) → h q = h q := fun _ _ => rfl
  refine g_iload_n C 1 dX12_person_0 rfl rfl rfl ?_
  refine g_iconst C (v := 0) dX12_person_1 (by decide) rfl ?_
  refine g_iconst C (v := 4) dX12_person_2 (by decide) rfl ?_
  refine g_callSi C (As := [.int (k), .int (0), .int (4)]) (k_X12_within l D b z h (k) (0) (4)) hw_12_56 (by decide) rfl rfl (Nat.le_of_ble_eq_true rfl) ⟨Nat.zero_le _, Nat.zero_le _⟩ dX12_person_3 (pc' := 6) rfl ?_
  rintro r1 h9 ⟨⟨er, hp3⟩ | ⟨er, hp3⟩, e9⟩
  · subst h9; subst er
    have hp3 := (wit_in (lo := 0) (hi := 4) (x := k) (by decide) (by decide)).mp hp3
    have hp3_ := hp3
    obtain ⟨i, rfl, hp3a, hp3b⟩ := hp3_
    refine g_if_eq C dX12_person_6 (tgt := 29) (by decide) (pc' := 9) rfl (fun c6 => absurd c6 (by decide)) (fun _ => ?_)
    refine g_iload_n C 2 dX12_person_9 rfl rfl rfl ?_
    refine g_iconst C (v := 1) dX12_person_10 (by decide) rfl ?_
    refine g_bipush C (v := 9) dX12_person_11 (by decide) rfl ?_
    refine g_callSi C (As := [.int (c), .int (1), .int (9)]) (k_X12_within l D b z h (c) (1) (9)) hw_12_56 (by decide) rfl rfl (Nat.le_of_ble_eq_true rfl) ⟨Nat.zero_le _, Nat.zero_le _⟩ dX12_person_13 (pc' := 16) rfl ?_
    rintro r2 h9 ⟨⟨er, hp13⟩ | ⟨er, hp13⟩, e9⟩
    · subst h9; subst er
      have hp13 := (wit_in (lo := 1) (hi := 9) (x := c) (by decide) (by decide)).mp hp13
      refine g_if_eq C dX12_person_16 (tgt := 29) (by decide) (pc' := 19) rfl (fun c16 => absurd c16 (by decide)) (fun _ => ?_)
      refine g_iload_n C 3 dX12_person_19 rfl rfl rfl ?_
      refine g_iconst C (v := 1) dX12_person_20 (by decide) rfl ?_
      refine g_bipush C (v := 9) dX12_person_21 (by decide) rfl ?_
      refine g_callSi C (As := [.int (t), .int (1), .int (9)]) (k_X12_within l D b z h (t) (1) (9)) hw_12_56 (by decide) rfl rfl (Nat.le_of_ble_eq_true rfl) ⟨Nat.zero_le _, Nat.zero_le _⟩ dX12_person_23 (pc' := 26) rfl ?_
      rintro r3 h9 ⟨⟨er, hp23⟩ | ⟨er, hp23⟩, e9⟩
      · subst h9; subst er
        have hp23 := (wit_in (lo := 1) (hi := 9) (x := t) (by decide) (by decide)).mp hp23
        refine g_if_ne C dX12_person_26 (tgt := 32) (by decide) (pc' := 29) rfl (fun _ => ?_) (fun c26 => absurd c26 (by decide))
        refine g_aload_n C 0 dX12_person_32 rfl rfl rfl ?_
        refine gf_12_82 C (hM) (v := .int (nI (gN σ 0))) rfl dX12_person_33 rfl ?_
        refine g_if_ne C dX12_person_36 (tgt := 42) (by decide) (pc' := 39) rfl ?_ ?_
        · intro c36
          replace c36 := (not_congr (nI_eq (a := gN σ 0) (b := 0) (by omega) (by omega))).mp c36
          refine g_aload_n C 0 dX12_person_42 rfl rfl rfl ?_
          refine gf_12_95 C (hM) (v := .int (nI (gN σ 8))) rfl dX12_person_43 rfl ?_
          refine g_iconst C (v := 4) dX12_person_46 (by decide) rfl ?_
          refine g_icmp_ne C dX12_person_47 (tgt := 53) (by decide) (pc' := 50) rfl ?_ ?_
          · intro c47
            replace c47 := (not_congr (nI_eq (a := gN σ 8) (b := 4) (by omega) (by omega))).mp c47
            refine g_aload_n C 0 dX12_person_53 rfl rfl rfl ?_
            refine gf_12_16 C (hM) (v := .ref (m + 3)) rfl dX12_person_54 rfl ?_
            refine g_aload_n C 0 dX12_person_57 rfl rfl rfl ?_
            refine gf_12_95 C (hM) (v := .int (nI (gN σ 8))) rfl dX12_person_58 rfl ?_
            refine g_iload_n C 1 dX12_person_61 rfl rfl rfl ?_
            refine g_iast' C (hR.2.2.1) (j := gN σ 8) rfl (by omega) (by decide) dX12_person_62 (pc' := 63) rfl (fun h4 e5 o6 => ?_)
            replace e5 : h4 (m + 3) = some (cI D 4 (upd (fun i => nI ((gA σ 9) i)) (gN σ 8) (nI (i)))) := e5
            rw [upd_nI] at e5
            have hM : MdO h4 m (uA (σ) 9 (va_up (gA σ 9) (gN σ 8) (i))) (s18) (s19) (s20) (s23) (s24) (s35) := (o6 _ (by omega)).trans hM
            have hR : MdR D h4 m (uA (σ) 9 (va_up (gA σ 9) (gN σ 8) (i))) (f21) (f22) := ⟨(o6 _ (by omega)).trans hR.1, (o6 _ (by omega)).trans hR.2.1, e5, (o6 _ (by omega)).trans hR.2.2.2.1, (o6 _ (by omega)).trans hR.2.2.2.2.1, (o6 _ (by omega)).trans hR.2.2.2.2.2.1, (o6 _ (by omega)).trans hR.2.2.2.2.2.2.1, (o6 _ (by omega)).trans hR.2.2.2.2.2.2.2.1, (o6 _ (by omega)).trans hR.2.2.2.2.2.2.2.2.1, (o6 _ (by omega)).trans hR.2.2.2.2.2.2.2.2.2.1, (o6 _ (by omega)).trans hR.2.2.2.2.2.2.2.2.2.2.1, (o6 _ (by omega)).trans hR.2.2.2.2.2.2.2.2.2.2.2.1, (o6 _ (by omega)).trans hR.2.2.2.2.2.2.2.2.2.2.2.2.1, (o6 _ (by omega)).trans hR.2.2.2.2.2.2.2.2.2.2.2.2.2.1, (o6 _ (by omega)).trans hR.2.2.2.2.2.2.2.2.2.2.2.2.2.2⟩
            have hO : ∀ q, (q < m ∨ m + 16 ≤ q) → h4 q = h q := fun q hq => (o6 q (by omega)).trans (hO q hq)
            refine g_aload_n C 0 dX12_person_63 rfl rfl rfl ?_
            refine gf_12_19 C (hM) (v := .ref (m + 4)) rfl dX12_person_64 rfl ?_
            refine g_aload_n C 0 dX12_person_67 rfl rfl rfl ?_
            refine gf_12_95 C (hM) (v := .int (nI (gN σ 8))) rfl dX12_person_68 rfl ?_
            refine g_iload_n C 2 dX12_person_71 rfl rfl rfl ?_
            refine g_iast' C (hR.2.2.2.1) (j := gN σ 8) rfl (by omega) (by decide) dX12_person_72 (pc' := 73) rfl (fun h7 e8 o9 => ?_)
            have hM : MdO h7 m (uB (uA (σ) 9 (va_up (gA σ 9) (gN σ 8) (i))) 10 (upd (gB σ 10) (gN σ 8) (c))) (s18) (s19) (s20) (s23) (s24) (s35) := (o9 _ (by omega)).trans hM
            have hR : MdR D h7 m (uB (uA (σ) 9 (va_up (gA σ 9) (gN σ 8) (i))) 10 (upd (gB σ 10) (gN σ 8) (c))) (f21) (f22) := ⟨(o9 _ (by omega)).trans hR.1, (o9 _ (by omega)).trans hR.2.1, (o9 _ (by omega)).trans hR.2.2.1, e8, (o9 _ (by omega)).trans hR.2.2.2.2.1, (o9 _ (by omega)).trans hR.2.2.2.2.2.1, (o9 _ (by omega)).trans hR.2.2.2.2.2.2.1, (o9 _ (by omega)).trans hR.2.2.2.2.2.2.2.1, (o9 _ (by omega)).trans hR.2.2.2.2.2.2.2.2.1, (o9 _ (by omega)).trans hR.2.2.2.2.2.2.2.2.2.1, (o9 _ (by omega)).trans hR.2.2.2.2.2.2.2.2.2.2.1, (o9 _ (by omega)).trans hR.2.2.2.2.2.2.2.2.2.2.2.1, (o9 _ (by omega)).trans hR.2.2.2.2.2.2.2.2.2.2.2.2.1, (o9 _ (by omega)).trans hR.2.2.2.2.2.2.2.2.2.2.2.2.2.1, (o9 _ (by omega)).trans hR.2.2.2.2.2.2.2.2.2.2.2.2.2.2⟩
            have hO : ∀ q, (q < m ∨ m + 16 ≤ q) → h7 q = h q := fun q hq => (o9 q (by omega)).trans (hO q hq)
            refine g_aload_n C 0 dX12_person_73 rfl rfl rfl ?_
            refine gf_12_22 C (hM) (v := .ref (m + 5)) rfl dX12_person_74 rfl ?_
            refine g_aload_n C 0 dX12_person_77 rfl rfl rfl ?_
            refine gf_12_95 C (hM) (v := .int (nI (gN σ 8))) rfl dX12_person_78 rfl ?_
            refine g_iload_n C 3 dX12_person_81 rfl rfl rfl ?_
            refine g_iast' C (hR.2.2.2.2.1) (j := gN σ 8) rfl (by omega) (by decide) dX12_person_82 (pc' := 83) rfl (fun h10 e11 o12 => ?_)
            have hM : MdO h10 m (uB (uB (uA (σ) 9 (va_up (gA σ 9) (gN σ 8) (i))) 10 (upd (gB σ 10) (gN σ 8) (c))) 11 (upd (gB σ 11) (gN σ 8) (t))) (s18) (s19) (s20) (s23) (s24) (s35) := (o12 _ (by omega)).trans hM
            have hR : MdR D h10 m (uB (uB (uA (σ) 9 (va_up (gA σ 9) (gN σ 8) (i))) 10 (upd (gB σ 10) (gN σ 8) (c))) 11 (upd (gB σ 11) (gN σ 8) (t))) (f21) (f22) := ⟨(o12 _ (by omega)).trans hR.1, (o12 _ (by omega)).trans hR.2.1, (o12 _ (by omega)).trans hR.2.2.1, (o12 _ (by omega)).trans hR.2.2.2.1, e11, (o12 _ (by omega)).trans hR.2.2.2.2.2.1, (o12 _ (by omega)).trans hR.2.2.2.2.2.2.1, (o12 _ (by omega)).trans hR.2.2.2.2.2.2.2.1, (o12 _ (by omega)).trans hR.2.2.2.2.2.2.2.2.1, (o12 _ (by omega)).trans hR.2.2.2.2.2.2.2.2.2.1, (o12 _ (by omega)).trans hR.2.2.2.2.2.2.2.2.2.2.1, (o12 _ (by omega)).trans hR.2.2.2.2.2.2.2.2.2.2.2.1, (o12 _ (by omega)).trans hR.2.2.2.2.2.2.2.2.2.2.2.2.1, (o12 _ (by omega)).trans hR.2.2.2.2.2.2.2.2.2.2.2.2.2.1, (o12 _ (by omega)).trans hR.2.2.2.2.2.2.2.2.2.2.2.2.2.2⟩
            have hO : ∀ q, (q < m ∨ m + 16 ≤ q) → h10 q = h q := fun q hq => (o12 q (by omega)).trans (hO q hq)
            refine g_aload_n C 0 dX12_person_83 rfl rfl rfl ?_
            refine gf_12_25 C (hM) (v := .ref (m + 6)) rfl dX12_person_84 rfl ?_
            refine g_aload_n C 0 dX12_person_87 rfl rfl rfl ?_
            refine gf_12_95 C (hM) (v := .int (nI (gN σ 8))) rfl dX12_person_88 rfl ?_
            refine g_iconst C (v := 0) dX12_person_91 (by decide) rfl ?_
            refine g_iast' C (hR.2.2.2.2.2.1) (j := gN σ 8) rfl (by omega) (by decide) dX12_person_92 (pc' := 93) rfl (fun h13 e14 o15 => ?_)
            have hM : MdO h13 m (uB (uB (uB (uA (σ) 9 (va_up (gA σ 9) (gN σ 8) (i))) 10 (upd (gB σ 10) (gN σ 8) (c))) 11 (upd (gB σ 11) (gN σ 8) (t))) 12 (upd (gB σ 12) (gN σ 8) (0))) (s18) (s19) (s20) (s23) (s24) (s35) := (o15 _ (by omega)).trans hM
            have hR : MdR D h13 m (uB (uB (uB (uA (σ) 9 (va_up (gA σ 9) (gN σ 8) (i))) 10 (upd (gB σ 10) (gN σ 8) (c))) 11 (upd (gB σ 11) (gN σ 8) (t))) 12 (upd (gB σ 12) (gN σ 8) (0))) (f21) (f22) := ⟨(o15 _ (by omega)).trans hR.1, (o15 _ (by omega)).trans hR.2.1, (o15 _ (by omega)).trans hR.2.2.1, (o15 _ (by omega)).trans hR.2.2.2.1, (o15 _ (by omega)).trans hR.2.2.2.2.1, e14, (o15 _ (by omega)).trans hR.2.2.2.2.2.2.1, (o15 _ (by omega)).trans hR.2.2.2.2.2.2.2.1, (o15 _ (by omega)).trans hR.2.2.2.2.2.2.2.2.1, (o15 _ (by omega)).trans hR.2.2.2.2.2.2.2.2.2.1, (o15 _ (by omega)).trans hR.2.2.2.2.2.2.2.2.2.2.1, (o15 _ (by omega)).trans hR.2.2.2.2.2.2.2.2.2.2.2.1, (o15 _ (by omega)).trans hR.2.2.2.2.2.2.2.2.2.2.2.2.1, (o15 _ (by omega)).trans hR.2.2.2.2.2.2.2.2.2.2.2.2.2.1, (o15 _ (by omega)).trans hR.2.2.2.2.2.2.2.2.2.2.2.2.2.2⟩
            have hO : ∀ q, (q < m ∨ m + 16 ≤ q) → h13 q = h q := fun q hq => (o15 q (by omega)).trans (hO q hq)
            refine g_aload_n C 0 dX12_person_93 rfl rfl rfl ?_
            refine g_dup C rfl dX12_person_94 rfl ?_
            refine gf_12_95 C (hM) (v := .int (nI (gN σ 8))) rfl dX12_person_95 rfl ?_
            refine g_iconst C (v := 1) dX12_person_98 (by decide) rfl ?_
            refine g_iadd C dX12_person_99 rfl ?_
            refine g_topi (y := nI (gN σ 8 + 1)) (nI_add _ _) ?_
            refine pf_12_95 C (hM) (v := .int (nI ((gN σ 8 + 1)))) rfl rfl (Nat.le_of_ble_eq_true rfl) dX12_person_100 (pc' := 103) rfl (fun h16 e17 o18 => ?_)
            have hM : MdO h16 m (uN (uB (uB (uB (uA (σ) 9 (va_up (gA σ 9) (gN σ 8) (i))) 10 (upd (gB σ 10) (gN σ 8) (c))) 11 (upd (gB σ 11) (gN σ 8) (t))) 12 (upd (gB σ 12) (gN σ 8) (0))) 8 ((gN σ 8 + 1))) (s18) (s19) (s20) (s23) (s24) (s35) := e17
            have hR : MdR D h16 m (uN (uB (uB (uB (uA (σ) 9 (va_up (gA σ 9) (gN σ 8) (i))) 10 (upd (gB σ 10) (gN σ 8) (c))) 11 (upd (gB σ 11) (gN σ 8) (t))) 12 (upd (gB σ 12) (gN σ 8) (0))) 8 ((gN σ 8 + 1))) (f21) (f22) := hR.fr (fun q g1 g2 => o18 q (by omega))
            have hO : ∀ q, (q < m ∨ m + 16 ≤ q) → h16 q = h q := fun q hq => (o18 q (by omega)).trans (hO q hq)
            refine g_aload_n C 0 dX12_person_103 rfl rfl rfl ?_
            refine gf_12_95 C (hM) (v := .int (nI ((gN σ 8 + 1)))) rfl dX12_person_104 rfl ?_
            refine g_iconst C (v := 1) dX12_person_107 (by decide) rfl ?_
            refine g_isub C dX12_person_108 rfl ?_
            refine g_topi (y := nI (gN σ 8)) (nI_sub' (a := gN σ 8 + 1) (b := 1) (by omega)) ?_
            exact ret _ _ _ _ dX12_person_109 rfl (⟨by unfold oPerson; rw [cIf_t ⟨hp3, hp13, hp23⟩, if_pos (by have := h03; omega), if_pos (by omega), nIc (by omega)]; exact ⟨rfl, ⟨_, _, _, _, _, _, _, _, hM, hR⟩⟩, hO⟩)
          · intro c47
            replace c47 := (nI_eq (a := gN σ 8) (b := 4) (by omega) (by omega)).mp c47
            refine g_bipush C (v := -104) dX12_person_50 (by decide) rfl ?_
            exact ret _ _ _ _ dX12_person_52 rfl (⟨by unfold oPerson; rw [cIf_t ⟨hp3, hp13, hp23⟩, if_pos (by have := h03; omega), if_neg (by omega)]; exact ⟨rfl, ⟨_, _, _, _, _, _, _, _, hM, hR⟩⟩, fun _ _ => rfl⟩)
        · intro c36
          replace c36 := (nI_eq (a := gN σ 0) (b := 0) (by omega) (by omega)).mp c36
          refine g_bipush C (v := -103) dX12_person_39 (by decide) rfl ?_
          exact ret _ _ _ _ dX12_person_41 rfl (⟨by unfold oPerson; rw [cIf_t ⟨hp3, hp13, hp23⟩, if_neg (by have := h03; omega)]; exact ⟨rfl, ⟨_, _, _, _, _, _, _, _, hM, hR⟩⟩, fun _ _ => rfl⟩)
      · subst h9; subst er
        have hp23 := (not_congr (wit_in (lo := 1) (hi := 9) (x := t) (by decide) (by decide))).mp hp23
        refine g_if_ne C dX12_person_26 (tgt := 32) (by decide) (pc' := 29) rfl (fun c26 => absurd (by decide) c26) (fun _ => ?_)
        refine g_bipush C (v := -102) dX12_person_29 (by decide) rfl ?_
        exact ret _ _ _ _ dX12_person_31 rfl (⟨by unfold oPerson; rw [cIf_f (fun g => hp23 g.2.2)]; exact ⟨rfl, ⟨_, _, _, _, _, _, _, _, hM, hR⟩⟩, fun _ _ => rfl⟩)
    · subst h9; subst er
      have hp13 := (not_congr (wit_in (lo := 1) (hi := 9) (x := c) (by decide) (by decide))).mp hp13
      refine g_if_eq C dX12_person_16 (tgt := 29) (by decide) (pc' := 19) rfl (fun _ => ?_) (fun c16 => absurd (by decide) c16)
      refine g_bipush C (v := -102) dX12_person_29 (by decide) rfl ?_
      exact ret _ _ _ _ dX12_person_31 rfl (⟨by unfold oPerson; rw [cIf_f (fun g => hp13 g.2.1)]; exact ⟨rfl, ⟨_, _, _, _, _, _, _, _, hM, hR⟩⟩, fun _ _ => rfl⟩)
  · subst h9; subst er
    have hp3 := (not_congr (wit_in (lo := 0) (hi := 4) (x := k) (by decide) (by decide))).mp hp3
    refine g_if_eq C dX12_person_6 (tgt := 29) (by decide) (pc' := 9) rfl (fun _ => ?_) (fun c6 => absurd (by decide) c6)
    refine g_bipush C (v := -102) dX12_person_29 (by decide) rfl ?_
    exact ret _ _ _ _ dX12_person_31 rfl (⟨by unfold oPerson; rw [cIf_f (fun g => hp3 g.1)]; exact ⟨rfl, ⟨_, _, _, _, _, _, _, _, hM, hR⟩⟩, fun _ _ => rfl⟩)

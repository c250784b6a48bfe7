/-! the reference model: what writes -/
def MdlAt (D : va_G) (h : qH) (m : Nat) (σ : sg) : Prop := ∃ s18 s19 s20 s23 s24 s35 f21 f22, MdO h m σ s18 s19 s20 s23 s24 s35 ∧ MdR D h m σ f21 f22
theorem bn8 : ∀ j, j < 128 → (nI j).toInt8.toInt32 = nI j := by decide
theorem bn_of {j : Nat} (h : j < 128) : vp_nar .byte (nI j) = nI j := by rw [vp_nar_byte]; exact bn8 j h
set_option maxHeartbeats 4000000 in
set_option maxRecDepth 100000 in
theorem k_X12_letter (l : Launch) (D : va_G) (b z : Nat) {h : qH} {m : Nat} {σ : sg} {s18 s35 : Int64} {s19 s20 s23 s24 : Int32} {f21 f22 : Nat → Int32} (hM : MdO h m σ s18 s19 s20 s23 s24 s35) (hR : MdR D h m σ f21 f22) (h16 : gN σ 16 ≤ 16) (c : Int32) : qMi l D b yX12_letter cX12_letter 2 .int 1 22 [.ref (m), .int (c)] h z (fun r0 h' => (r0 = (oLetter σ c).1 ∧ MdlAt D h' m (oLetter σ c).2) ∧ ∀ q, (q < m ∨ m + 16 ≤ q) → h' q = h q) := by
  refine q_i (L := [(0, .ref (m)), (1, .int (c))]) (own := RX12) (by decide) rfl (Nat.le_of_ble_eq_true rfl) rfl ?_
  intro X C ret
  have hO : ∀ q, (q < m ∨ m + 16 ≤ q) → h q = h q := fun _ _ => rfl
  refine g_iload_n C 1 dX12_letter_0 rfl rfl rfl ?_
  refine g_bipush C (v := 32) dX12_letter_1 (by decide) rfl ?_
  refine g_bipush C (v := 126) dX12_letter_3 (by decide) rfl ?_
  refine g_callSi C (As := [.int (c), .int (32), .int (126)]) (k_X12_within l D b z h (c) (32) (126)) hw_12_56 (by decide) rfl rfl (Nat.le_of_ble_eq_true rfl) ⟨Nat.zero_le _, Nat.zero_le _⟩ dX12_letter_5 (pc' := 8) rfl ?_
  rintro r1 h9 ⟨⟨er, hp5⟩ | ⟨er, hp5⟩, e9⟩
  · subst h9; subst er
    have hp5 := (wit_in (lo := 32) (hi := 126) (x := c) (by decide) (by decide)).mp hp5
    have hp5_ := hp5
    obtain ⟨i, rfl, hp5a, hp5b⟩ := hp5_
    refine g_if_ne C dX12_letter_8 (tgt := 14) (by decide) (pc' := 11) rfl (fun _ => ?_) (fun c8 => absurd c8 (by decide))
    refine g_aload_n C 0 dX12_letter_14 rfl rfl rfl ?_
    refine gf_12_60 C (hM) (v := .int (nI (gN (σ) 16))) rfl dX12_letter_15 rfl ?_
    refine g_bipush C (v := 16) dX12_letter_18 (by decide) rfl ?_
    refine g_icmp_ne C dX12_letter_20 (tgt := 26) (by decide) (pc' := 23) rfl ?_ ?_
    · intro c20
      replace c20 := (not_congr (nI_eq (a := gN (σ) 16) (b := 16) (by omega) (by omega))).mp c20
      refine g_aload_n C 0 dX12_letter_26 rfl rfl rfl ?_
      refine gf_12_34 C (hM) (v := .ref (m + 9)) rfl dX12_letter_27 rfl ?_
      refine g_aload_n C 0 dX12_letter_30 rfl rfl rfl ?_
      refine gf_12_60 C (hM) (v := .int (nI (gN (σ) 16))) rfl dX12_letter_31 rfl ?_
      refine g_iload_n C 1 dX12_letter_34 rfl rfl rfl ?_
      refine g_i2b C dX12_letter_35 rfl ?_
      refine g_topi (y := nI i) (bn8 i (by omega)) ?_
      refine g_bast' C (hR.2.2.2.2.2.2.2.2.1) (j := gN (σ) 16) rfl (by omega) (by decide) dX12_letter_36 (pc' := 37) rfl (fun h2 e3 o4 => ?_)
      rw [bn_of (by omega)] at e3
      have hM : MdO h2 m (uB (σ) 17 (upd (gB (σ) 17) (gN (σ) 16) (nI (i)))) (s18) (s19) (s20) (s23) (s24) (s35) := (o4 _ (by omega)).trans hM
      have hR : MdR D h2 m (uB (σ) 17 (upd (gB (σ) 17) (gN (σ) 16) (nI (i)))) (f21) (f22) := ⟨(o4 _ (by omega)).trans hR.1, (o4 _ (by omega)).trans hR.2.1, (o4 _ (by omega)).trans hR.2.2.1, (o4 _ (by omega)).trans hR.2.2.2.1, (o4 _ (by omega)).trans hR.2.2.2.2.1, (o4 _ (by omega)).trans hR.2.2.2.2.2.1, (o4 _ (by omega)).trans hR.2.2.2.2.2.2.1, (o4 _ (by omega)).trans hR.2.2.2.2.2.2.2.1, e3, (o4 _ (by omega)).trans hR.2.2.2.2.2.2.2.2.2.1, (o4 _ (by omega)).trans hR.2.2.2.2.2.2.2.2.2.2.1, (o4 _ (by omega)).trans hR.2.2.2.2.2.2.2.2.2.2.2.1, (o4 _ (by omega)).trans hR.2.2.2.2.2.2.2.2.2.2.2.2.1, (o4 _ (by omega)).trans hR.2.2.2.2.2.2.2.2.2.2.2.2.2.1, (o4 _ (by omega)).trans hR.2.2.2.2.2.2.2.2.2.2.2.2.2.2⟩
      have hO : ∀ q, (q < m ∨ m + 16 ≤ q) → h2 q = h q := fun q hq => (o4 q (by omega)).trans (hO q hq)
      refine g_aload_n C 0 dX12_letter_37 rfl rfl rfl ?_
      refine g_dup C rfl dX12_letter_38 rfl ?_
      refine gf_12_60 C (hM) (v := .int (nI (gN (uB (σ) 17 (upd (gB (σ) 17) (gN (σ) 16) (nI (i)))) 16))) rfl dX12_letter_39 rfl ?_
      refine g_iconst C (v := 1) dX12_letter_42 (by decide) rfl ?_
      refine g_iadd C dX12_letter_43 rfl ?_
      refine g_topi (y := nI (gN (uB (σ) 17 (upd (gB (σ) 17) (gN (σ) 16) (nI (i)))) 16 + 1)) (nI_add _ _) ?_
      refine pf_12_60 C (hM) (v := .int (nI ((gN (uB (σ) 17 (upd (gB (σ) 17) (gN (σ) 16) (nI (i)))) 16 + 1)))) rfl rfl (Nat.le_of_ble_eq_true rfl) dX12_letter_44 (pc' := 47) rfl (fun h5 e6 o7 => ?_)
      have hM : MdO h5 m (uN (uB (σ) 17 (upd (gB (σ) 17) (gN (σ) 16) (nI (i)))) 16 ((gN (uB (σ) 17 (upd (gB (σ) 17) (gN (σ) 16) (nI (i)))) 16 + 1))) (s18) (s19) (s20) (s23) (s24) (s35) := e6
      have hR : MdR D h5 m (uN (uB (σ) 17 (upd (gB (σ) 17) (gN (σ) 16) (nI (i)))) 16 ((gN (uB (σ) 17 (upd (gB (σ) 17) (gN (σ) 16) (nI (i)))) 16 + 1))) (f21) (f22) := hR.fr (fun q g1 g2 => o7 q (by omega))
      have hO : ∀ q, (q < m ∨ m + 16 ≤ q) → h5 q = h q := fun q hq => (o7 q (by omega)).trans (hO q hq)
      refine g_aload_n C 0 dX12_letter_47 rfl rfl rfl ?_
      refine gf_12_60 C (hM) (v := .int (nI (gN (uN (uB (σ) 17 (upd (gB (σ) 17) (gN (σ) 16) (nI (i)))) 16 ((gN (uB (σ) 17 (upd (gB (σ) 17) (gN (σ) 16) (nI (i)))) 16 + 1))) 16))) rfl dX12_letter_48 rfl ?_
      exact ret _ _ _ _ dX12_letter_51 rfl (⟨by unfold oLetter; rw [if_pos ⟨((wit_in (lo := 32) (hi := 126) (by decide) (by decide)).mpr hp5).1, Int32.not_lt.mp ((wit_in (lo := 32) (hi := 126) (by decide) (by decide)).mpr hp5).2⟩, if_pos (by omega)]; exact ⟨rfl, ⟨_, _, _, _, _, _, _, _, hM, hR⟩⟩, hO⟩)
    · intro c20
      replace c20 := (nI_eq (a := gN (σ) 16) (b := 16) (by omega) (by omega)).mp c20
      refine g_bipush C (v := -104) dX12_letter_23 (by decide) rfl ?_
      exact ret _ _ _ _ dX12_letter_25 rfl (⟨by unfold oLetter; rw [if_pos ⟨((wit_in (lo := 32) (hi := 126) (by decide) (by decide)).mpr hp5).1, Int32.not_lt.mp ((wit_in (lo := 32) (hi := 126) (by decide) (by decide)).mpr hp5).2⟩, if_neg (by omega)]; exact ⟨rfl, ⟨_, _, _, _, _, _, _, _, hM, hR⟩⟩, fun _ _ => rfl⟩)
  · subst h9; subst er
    have hp5 := (not_congr (wit_in (lo := 32) (hi := 126) (x := c) (by decide) (by decide))).mp hp5
    refine g_if_ne C dX12_letter_8 (tgt := 14) (by decide) (pc' := 11) rfl (fun c8 => absurd (by decide) c8) (fun _ => ?_)
    refine g_bipush C (v := -102) dX12_letter_11 (by decide) rfl ?_
    exact ret _ _ _ _ dX12_letter_13 rfl (⟨by unfold oLetter; rw [if_neg (fun g => hp5 ((wit_in (lo := 32) (hi := 126) (by decide) (by decide)).mp ⟨g.1, Int32.not_lt.mpr g.2⟩))]; exact ⟨rfl, ⟨_, _, _, _, _, _, _, _, hM, hR⟩⟩, fun _ _ => rfl⟩)
set_option maxHeartbeats 4000000 in
set_option maxRecDepth 100000 in
theorem k_X12_blank (l : Launch) (D : va_G) (b z : Nat) {h : qH} {m : Nat} {σ : sg} {s18 s35 : Int64} {s19 s20 s23 s24 : Int32} {f21 f22 : Nat → Int32} (hM : MdO h m σ s18 s19 s20 s23 s24 s35) (hR : MdR D h m σ f21 f22)  : qMi l D b yX12_blank cX12_blank 2 .int 0 0 [.ref (m)] h z (fun r0 h' => (r0 = (oBlank σ).1 ∧ MdlAt D h' m (oBlank σ).2) ∧ ∀ q, (q < m ∨ m + 16 ≤ q) → h' q = h q) := by
  refine q_i (L := [(0, .ref (m))]) (own := RX12) (by decide) rfl (Nat.le_of_ble_eq_true rfl) rfl ?_
  intro X C ret
  have hO : ∀ q, (q < m ∨ m + 16 ≤ q) → h q = h q := fun _ _ => rfl
  refine g_aload_n C 0 dX12_blank_0 rfl rfl rfl ?_
  refine gf_12_60 C (hM) (v := .int (nI (gN (σ) 16))) rfl dX12_blank_1 rfl ?_
  refine g_istore_n C ([(1, .int (nI (gN (σ) 16))), (0, .ref (m))]) dX12_blank_4 rfl (by decide) rfl rfl ?_
  refine g_aload_n C 1 dX12_blank_5 rfl rfl rfl ?_
  refine g_iconst C (v := 0) dX12_blank_6 (by decide) rfl ?_
  refine pf_12_60 C (hM) (v := .int (0)) rfl rfl (Nat.le_of_ble_eq_true rfl) dX12_blank_7 (pc' := 10) rfl (fun h1 e2 o3 => ?_)
  have hM : MdO h1 m (uN (σ) 16 (0)) (s18) (s19) (s20) (s23) (s24) (s35) := e2
  have hR : MdR D h1 m (uN (σ) 16 (0)) (f21) (f22) := hR.fr (fun q g1 g2 => o3 q (by omega))
  have hO : ∀ q, (q < m ∨ m + 16 ≤ q) → h1 q = h q := fun q hq => (o3 q (by omega)).trans (hO q hq)
  refine g_iload_n C 0 dX12_blank_10 rfl rfl rfl ?_
  exact ret _ _ _ _ dX12_blank_11 rfl (⟨⟨rfl, ⟨_, _, _, _, _, _, _, _, hM, hR⟩⟩, hO⟩)
set_option maxHeartbeats 4000000 in
set_option maxRecDepth 100000 in
theorem k_X12_forget (l : Launch) (D : va_G) (b z : Nat) {h : qH} {m : Nat} {σ : sg} {s18 s35 : Int64} {s19 s20 s23 s24 : Int32} {f21 f22 : Nat → Int32} (hM : MdO h m σ s18 s19 s20 s23 s24 s35) (hR : MdR D h m σ f21 f22)  : qMi l D b yX12_forget cX12_forget 2 .int 0 0 [.ref (m)] h z (fun r0 h' => (r0 = (oForget σ).1 ∧ MdlAt D h' m (oForget σ).2) ∧ ∀ q, (q < m ∨ m + 16 ≤ q) → h' q = h q) := by
  refine q_i (L := [(0, .ref (m))]) (own := RX12) (by decide) rfl (Nat.le_of_ble_eq_true rfl) rfl ?_
  intro X C ret
  have hO : ∀ q, (q < m ∨ m + 16 ≤ q) → h q = h q := fun _ _ => rfl
  refine g_aload_n C 0 dX12_forget_0 rfl rfl rfl ?_
  refine gf_12_98 C (hM) (v := .int (nI (gN (σ) 13))) rfl dX12_forget_1 rfl ?_
  refine g_istore_n C ([(1, .int (nI (gN (σ) 13))), (0, .ref (m))]) dX12_forget_4 rfl (by decide) rfl rfl ?_
  refine g_aload_n C 1 dX12_forget_5 rfl rfl rfl ?_
  refine g_iconst C (v := 0) dX12_forget_6 (by decide) rfl ?_
  refine pf_12_98 C (hM) (v := .int (0)) rfl rfl (Nat.le_of_ble_eq_true rfl) dX12_forget_7 (pc' := 10) rfl (fun h1 e2 o3 => ?_)
  have hM : MdO h1 m (uN (σ) 13 (0)) (s18) (s19) (s20) (s23) (s24) (s35) := e2
  have hR : MdR D h1 m (uN (σ) 13 (0)) (f21) (f22) := hR.fr (fun q g1 g2 => o3 q (by omega))
  have hO : ∀ q, (q < m ∨ m + 16 ≤ q) → h1 q = h q := fun q hq => (o3 q (by omega)).trans (hO q hq)
  refine g_iload_n C 0 dX12_forget_10 rfl rfl rfl ?_
  exact ret _ _ _ _ dX12_forget_11 rfl (⟨⟨rfl, ⟨_, _, _, _, _, _, _, _, hM, hR⟩⟩, hO⟩)

/-! the reference model: a station -/
theorem mg_fig {σ : sg} {k : Nat} (h : inP 0 9 (fgM σ k)) : fgM σ k = nI (dgt (gB σ 17 k)) ∧ dgt (gB σ 17 k) ≤ 9 := by
  have e : F_dg (gB σ 17 k) = fgM σ k := by
    obtain ⟨j, hj, -, hj9⟩ := h
    unfold fgM at hj ⊢
    have e1 : gB σ 17 k = nI (j + 48) := by
      have : gB σ 17 k - 48 + 48 = nI j + 48 := by rw [hj]
      rw [Int32.sub_add_cancel] at this
      exact this.trans (nI_add j 48)
    rw [e1]
    unfold F_dg
    rw [if_neg (fun g => by have := (nI_ltI (a := j + 48) (b := 48) (by omega) (by decide)).mp g; omega), if_neg (fun g => by have := (nI_ltI (a := 57) (b := j + 48) (by decide) (by omega)).mp g; omega)]
  have n1 : ¬ F_dg (gB σ 17 k) = -1 := by
    obtain ⟨j, hj, -, hj9⟩ := h
    rw [e, hj]
    exact nI_nm1 (by omega)
  have := F_dg_dgt n1
  exact ⟨by rw [← e]; exact this.1, this.2⟩
theorem mgT {σ : sg} (h : ∀ j, j < 14 → mgP σ j) {v w : Nat} (hv : v < 3) (hw : w < 3) : fgM σ (4 * v + w) = nI (dgt (gB σ 17 (4 * v + w))) ∧ dgt (gB σ 17 (4 * v + w)) ≤ 9 := by
  have h1 := h (4 * v + w) (by omega)
  unfold mgP at h1
  rw [if_pos (by omega)] at h1
  apply mg_fig
  rcases (show w = 0 ∨ w = 1 ∨ w = 2 by omega) with rfl | rfl | rfl
  · rw [if_pos (by rw [show (4 * v + 0) % 4 = 0 by omega]; rfl)] at h1
    exact h1
  · rw [if_neg (by rw [show (4 * v + 1) % 4 = 1 by omega]; decide), if_pos (by rw [show (4 * v + 1) % 4 = 1 by omega]; rfl)] at h1
    exact h1.1
  · rw [if_neg (by rw [show (4 * v + 2) % 4 = 2 by omega]; decide), if_neg (by rw [show (4 * v + 2) % 4 = 2 by omega]; decide), if_pos (by rw [show (4 * v + 2) % 4 = 2 by omega]; rfl)] at h1
    exact h1.1
theorem mg12 {σ : sg} (h : mgP σ 12) : fgM σ 12 = nI (dgt (gB σ 17 12)) ∧ 1 ≤ dgt (gB σ 17 12) ∧ dgt (gB σ 17 12) ≤ 4 := by
  have h1 : inP 1 4 (fgM σ 12) := by
    unfold mgP at h
    rw [if_neg (by decide), if_pos rfl] at h
    exact h
  obtain ⟨j, hj, h1, h4⟩ := h1
  have := mg_fig (σ := σ) (k := 12) ⟨j, hj, by omega, by omega⟩
  have e : dgt (gB σ 17 12) = j := nIinj (by omega) (by omega) (this.1.symm.trans hj)
  exact ⟨this.1, by omega, by omega⟩
theorem mg13 {σ : sg} (h : mgP σ 13) : fgM σ 13 = nI (dgt (gB σ 17 13)) ∧ dgt (gB σ 17 13) ≤ 9 := by
  unfold mgP at h
  rw [if_neg (by decide), if_neg (by decide)] at h
  exact mg_fig h.2
noncomputable def mStation (σ : sg) : Int32 × sg := cIf (gN σ 16 = 14 ∧ ∀ j, j < 14 → mgP σ j) (nI (dgt (gB σ 17 12)), stN σ) (-103, σ)
set_option maxHeartbeats 4000000 in
set_option maxRecDepth 100000 in
theorem kF_X12_figure (l : Launch) (D : va_G) (b z : Nat) {h : qH} {m : Nat} {f17 : Nat → Int32} {n0 : Int32} {n1 : Int32} {n3 : Int32} {n4 : Int32} {n5 : Int32} {n6 : Int32} {n8 : Int32} {n13 : Int32} {n16 : Int32} {n18 : Int64} {n19 : Int32} {n20 : Int32} {n23 : Int32} {n24 : Int32} {n25 : Int32} {n26 : Int32} {n27 : Int32} {n28 : Int32} {n29 : Int32} {n30 : Int32} {n35 : Int64} (hMo : h (m) = some (.inr (12, [.int (n0), .int (n1), .ref (m + 1), .int (n3), .int (n4), .int (n5), .int (n6), .ref (m + 2), .int (n8), .ref (m + 3), .ref (m + 4), .ref (m + 5), .ref (m + 6), .int (n13), .ref (m + 7), .ref (m + 8), .int (n16), .ref (m + 9), .long (n18), .int (n19), .int (n20), .ref (m + 10), .ref (m + 11), .int (n23), .int (n24), .int (n25), .int (n26), .int (n27), .int (n28), .int (n29), .int (n30), .ref (m + 12), .ref (m + 13), .ref (m + 14), .ref (m + 15), .long (n35)]))) (hR17 : h (m + 9) = some (cB D 16 f17)) {k : Nat} (hk : k < 16) : qMi l D b yX12_figure cX12_figure 2 .int 0 0 [.ref (m), .int (nI (k))] h z (fun r0 h' => r0 = f17 k - 48 ∧ h' = h) := by
  refine q_i (L := [(0, .ref (m)), (1, .int (nI (k)))]) (own := RX12) (by decide) rfl (Nat.le_of_ble_eq_true rfl) rfl ?_
  intro X C ret
  refine g_aload_n C 0 dX12_figure_0 rfl rfl rfl ?_
  refine gf_12_34 C (hMo) (v := .ref (m + 9)) rfl dX12_figure_1 rfl ?_
  refine g_iload_n C 1 dX12_figure_4 rfl rfl rfl ?_
  refine g_bald' C (hR17) (j := k) rfl (by omega) (by decide) dX12_figure_5 rfl ?_
  refine g_bipush C (v := 48) dX12_figure_6 (by decide) rfl ?_
  refine g_isub C dX12_figure_8 rfl ?_
  exact ret _ _ _ _ dX12_figure_9 rfl (⟨rfl, rfl⟩)
theorem lt9c {P : Nat → Prop} (h0 : P 0) (h1 : P 1) (h2 : P 2) (h3 : P 3) (h4 : P 4) (h5 : P 5) (h6 : P 6) (h7 : P 7) (h8 : P 8) : ∀ j, j < 9 → P j := fun j hj => by
  rcases (show j = 0 ∨ j = 1 ∨ j = 2 ∨ j = 3 ∨ j = 4 ∨ j = 5 ∨ j = 6 ∨ j = 7 ∨ j = 8 by omega) with rfl | rfl | rfl | rfl | rfl | rfl | rfl | rfl | rfl <;> assumption
set_option maxHeartbeats 4000000 in
set_option maxRecDepth 100000 in
theorem k_X12_station (l : Launch) (D : va_G) (b z : Nat) {h : qH} {m : Nat} {σ : sg} {s18 s35 : Int64} {s19 s20 s23 s24 : Int32} {f21 f22 : Nat → Int32} (hM : MdO h m σ s18 s19 s20 s23 s24 s35) (hR : MdR D h m σ f21 f22) (h16 : gN σ 16 ≤ 16) : qMi l D b yX12_station cX12_station 3 .int 3 65 [.ref (m)] h z (fun r0 h' => (r0 = (mStation σ).1 ∧ MdlAt D h' m (mStation σ).2) ∧ ∀ q, (q < m ∨ m + 16 ≤ q) → h' q = h q) := by
  refine q_i (L := [(0, .ref (m))]) (own := RX12) (by decide) rfl (Nat.le_of_ble_eq_true rfl) rfl ?_
  intro X C ret
  have hO : ∀ q, (q < m ∨ m + 16 ≤ q) → h q = h q := fun _ _ => rfl
  refine g_aload_n C 0 dX12_station_0 rfl rfl rfl ?_
  refine g_callVi C (As := []) (q := (RX12, TX12, 36)) (k_X12_faultNow l D b z hM hR h16) hw_12_72 (hM) rfl (by decide) rfl rfl (Nat.le_of_ble_eq_true rfl) ⟨Nat.zero_le _, Nat.zero_le _⟩ dX12_station_1 (pc' := 4) rfl ?_
  rintro _ h9 ⟨⟨k, rfl, hff⟩, e9⟩
  subst h9; have hkn := hff.1
  refine g_aload_n C 0 dX12_station_4 rfl rfl rfl ?_
  refine gf_12_60 C (hM) (v := .int (nI (gN σ 16))) rfl dX12_station_5 rfl ?_
  refine g_icmp_ne C dX12_station_8 (tgt := 20) (by decide) (pc' := 11) rfl ?_ ?_
  · intro c8
    replace c8 := (not_congr (nI_eq (a := k) (b := gN σ 16) (by omega) (by omega))).mp c8
    refine g_bipush C (v := -103) dX12_station_20 (by decide) rfl ?_
    exact ret _ _ _ _ dX12_station_22 rfl (⟨by unfold mStation; rw [cIf_f (fun g => c8 (by have h1 := hff.1; rcases Nat.lt_or_ge k (gN σ 16) with q | q; exact absurd (g.2 k (by omega)) (hff.2.2 q); omega))]; exact ⟨rfl, ⟨_, _, _, _, _, _, _, _, hM, hR⟩⟩, fun _ _ => rfl⟩)
  · intro c8
    replace c8 := (nI_eq (a := k) (b := gN σ 16) (by omega) (by omega)).mp c8
    refine g_aload_n C 0 dX12_station_11 rfl rfl rfl ?_
    refine gf_12_60 C (hM) (v := .int (nI (gN σ 16))) rfl dX12_station_12 rfl ?_
    refine g_bipush C (v := 14) dX12_station_15 (by decide) rfl ?_
    refine g_icmp_eq C dX12_station_17 (tgt := 23) (by decide) (pc' := 20) rfl ?_ ?_
    · intro c17
      replace c17 := (nI_eq (a := gN σ 16) (b := 14) (by omega) (by omega)).mp c17
      have hg14 : ∀ j, j < 14 → mgP σ j := fun j hj => hff.2.1 j (by omega)
      have hMo : h (m) = some (.inr (12, [.int (nI (gN σ 0)), .int (nI (gN σ 1)), .ref (m + 1), .int (nI (gN σ 3)), .int (nI (gN σ 4)), .int (gI σ 5), .int (nI (gN σ 6)), .ref (m + 2), .int (nI (gN σ 8)), .ref (m + 3), .ref (m + 4), .ref (m + 5), .ref (m + 6), .int (nI (gN σ 13)), .ref (m + 7), .ref (m + 8), .int (nI (gN σ 16)), .ref (m + 9), .long (s18), .int (s19), .int (s20), .ref (m + 10), .ref (m + 11), .int (s23), .int (s24), .int (nI (gN σ 25)), .int (nI (gN σ 26)), .int (gI σ 27), .int (nI (gN σ 28)), .int (nI (gN σ 29)), .int (nI (gN σ 30)), .ref (m + 12), .ref (m + 13), .ref (m + 14), .ref (m + 15), .long (s35)])) := hM
      have hR2 : h (m + 1) = some (cI D 9 (tnS σ)) := hR.1
      have hR7 : h (m + 2) = some (cI D 5 (gB σ 7)) := hR.2.1
      have hR9 : h (m + 3) = some (cI D 4 (kdS σ)) := hR.2.2.1
      have hR10 : h (m + 4) = some (cI D 4 (gB σ 10)) := hR.2.2.2.1
      have hR11 : h (m + 5) = some (cI D 4 (gB σ 11)) := hR.2.2.2.2.1
      have hR12 : h (m + 6) = some (cI D 4 (gB σ 12)) := hR.2.2.2.2.2.1
      have hR14 : h (m + 7) = some (cI D 12 (gB σ 14)) := hR.2.2.2.2.2.2.1
      have hR15 : h (m + 8) = some (cI D 12 (gB σ 15)) := hR.2.2.2.2.2.2.2.1
      have hR17 : h (m + 9) = some (cB D 16 (gB σ 17)) := hR.2.2.2.2.2.2.2.2.1
      have hR21 : h (m + 10) = some (cI D 5 (f21)) := hR.2.2.2.2.2.2.2.2.2.1
      have hR22 : h (m + 11) = some (cI D 5 (f22)) := hR.2.2.2.2.2.2.2.2.2.2.1
      have hR31 : h (m + 12) = some (cI D 5 (gB σ 31)) := hR.2.2.2.2.2.2.2.2.2.2.2.1
      have hR32 : h (m + 13) = some (cI D 4 (gB σ 32)) := hR.2.2.2.2.2.2.2.2.2.2.2.2.1
      have hR33 : h (m + 14) = some (cI D 12 (gB σ 33)) := hR.2.2.2.2.2.2.2.2.2.2.2.2.2.1
      have hR34 : h (m + 15) = some (cI D 12 (gB σ 34)) := hR.2.2.2.2.2.2.2.2.2.2.2.2.2.2
      clear hM hR
      refine g_iconst C (v := 0) dX12_station_23 (by decide) rfl ?_
      refine g_istore_n C ([(1, .int (0)), (0, .ref (m))]) dX12_station_24 rfl (by decide) rfl rfl ?_
      refine g_iload_n C 0 dX12_station_25 rfl rfl rfl ?_
      refine g_iconst C (v := 3) dX12_station_26 (by decide) rfl ?_
      refine g_icmp_ge C dX12_station_27 (tgt := 68) (by decide) (pc' := 30) rfl (fun c27 => absurd c27 (by decide)) (fun _ => ?_)
      refine g_iconst C (v := 0) dX12_station_30 (by decide) rfl ?_
      refine g_istore_n C ([(2, .int (0)), (1, .int (0)), (0, .ref (m))]) dX12_station_31 rfl (by decide) rfl rfl ?_
      refine g_iload_n C 0 dX12_station_32 rfl rfl rfl ?_
      refine g_iconst C (v := 3) dX12_station_33 (by decide) rfl ?_
      refine g_icmp_ge C dX12_station_34 (tgt := 62) (by decide) (pc' := 37) rfl (fun c34 => absurd c34 (by decide)) (fun _ => ?_)
      refine g_aload_n C 2 dX12_station_37 rfl rfl rfl ?_
      refine gf_12_7 C (hMo) (v := .ref (m + 1)) rfl dX12_station_38 rfl ?_
      refine g_iconst C (v := 3) dX12_station_41 (by decide) rfl ?_
      refine g_iload_n C 1 dX12_station_42 rfl rfl rfl ?_
      refine g_imul C dX12_station_43 rfl ?_
      refine g_topi (y := 0) (by decide) ?_
      refine g_iload_n C 0 dX12_station_44 rfl rfl rfl ?_
      refine g_iadd C dX12_station_45 rfl ?_
      refine g_topi (y := 0) (by decide) ?_
      refine g_aload_n C 2 dX12_station_46 rfl rfl rfl ?_
      refine g_iconst C (v := 4) dX12_station_47 (by decide) rfl ?_
      refine g_iload_n C 1 dX12_station_48 rfl rfl rfl ?_
      refine g_imul C dX12_station_49 rfl ?_
      refine g_topi (y := 0) (by decide) ?_
      refine g_iload_n C 0 dX12_station_50 rfl rfl rfl ?_
      refine g_iadd C dX12_station_51 rfl ?_
      refine g_topi (y := 0) (by decide) ?_
      refine g_callVi C (As := [.int (0)]) (q := (RX12, TX12, 36)) (kF_X12_figure l D b z hMo hR17 (k := 0) (by decide)) hw_12_64 (hMo) rfl (by decide) rfl rfl (Nat.le_of_ble_eq_true rfl) ⟨Nat.zero_le _, Nat.zero_le _⟩ dX12_station_52 (pc' := 55) rfl ?_
      rintro r1 h9 ⟨er, e9⟩
      subst h9; subst er
      refine g_topi (y := nI (dgt (gB σ 17 0))) ((mgT hg14 (v := 0) (w := 0) (by decide) (by decide)).1) ?_
      refine g_iast' C (hR2) (j := 0) rfl (by omega) (by decide) dX12_station_55 (pc' := 56) rfl (fun h2 e3 o4 => ?_)
      have hR2 : h2 (m + 1) = some (cI D 9 (upd (tnS σ) (0) (nI (dgt (gB σ 17 0))))) := e3
      have hMo : h2 (m) = some (.inr (12, [.int (nI (gN σ 0)), .int (nI (gN σ 1)), .ref (m + 1), .int (nI (gN σ 3)), .int (nI (gN σ 4)), .int (gI σ 5), .int (nI (gN σ 6)), .ref (m + 2), .int (nI (gN σ 8)), .ref (m + 3), .ref (m + 4), .ref (m + 5), .ref (m + 6), .int (nI (gN σ 13)), .ref (m + 7), .ref (m + 8), .int (nI (gN σ 16)), .ref (m + 9), .long (s18), .int (s19), .int (s20), .ref (m + 10), .ref (m + 11), .int (s23), .int (s24), .int (nI (gN σ 25)), .int (nI (gN σ 26)), .int (gI σ 27), .int (nI (gN σ 28)), .int (nI (gN σ 29)), .int (nI (gN σ 30)), .ref (m + 12), .ref (m + 13), .ref (m + 14), .ref (m + 15), .long (s35)])) := (o4 _ (by omega)).trans hMo
      have hR7 : h2 (m + 2) = some (cI D 5 (gB σ 7)) := (o4 _ (by omega)).trans hR7
      have hR9 : h2 (m + 3) = some (cI D 4 (kdS σ)) := (o4 _ (by omega)).trans hR9
      have hR10 : h2 (m + 4) = some (cI D 4 (gB σ 10)) := (o4 _ (by omega)).trans hR10
      have hR11 : h2 (m + 5) = some (cI D 4 (gB σ 11)) := (o4 _ (by omega)).trans hR11
      have hR12 : h2 (m + 6) = some (cI D 4 (gB σ 12)) := (o4 _ (by omega)).trans hR12
      have hR14 : h2 (m + 7) = some (cI D 12 (gB σ 14)) := (o4 _ (by omega)).trans hR14
      have hR15 : h2 (m + 8) = some (cI D 12 (gB σ 15)) := (o4 _ (by omega)).trans hR15
      have hR17 : h2 (m + 9) = some (cB D 16 (gB σ 17)) := (o4 _ (by omega)).trans hR17
      have hR21 : h2 (m + 10) = some (cI D 5 (f21)) := (o4 _ (by omega)).trans hR21
      have hR22 : h2 (m + 11) = some (cI D 5 (f22)) := (o4 _ (by omega)).trans hR22
      have hR31 : h2 (m + 12) = some (cI D 5 (gB σ 31)) := (o4 _ (by omega)).trans hR31
      have hR32 : h2 (m + 13) = some (cI D 4 (gB σ 32)) := (o4 _ (by omega)).trans hR32
      have hR33 : h2 (m + 14) = some (cI D 12 (gB σ 33)) := (o4 _ (by omega)).trans hR33
      have hR34 : h2 (m + 15) = some (cI D 12 (gB σ 34)) := (o4 _ (by omega)).trans hR34
      have hO : ∀ q, (q < m ∨ m + 16 ≤ q) → h2 q = h q := fun q hq => (o4 q (by omega)).trans (hO q hq)
      refine g_iinc C (v := 1) 0 ([(2, .int (1)), (1, .int (0)), (0, .ref (m))]) dX12_station_56 rfl (by decide) (by decide) rfl rfl ?_
      refine g_goto C dX12_station_59 (tgt := 32) (by decide) ?_
      refine g_iload_n C 0 dX12_station_32 rfl rfl rfl ?_
      refine g_iconst C (v := 3) dX12_station_33 (by decide) rfl ?_
      refine g_icmp_ge C dX12_station_34 (tgt := 62) (by decide) (pc' := 37) rfl (fun c34 => absurd c34 (by decide)) (fun _ => ?_)
      refine g_aload_n C 2 dX12_station_37 rfl rfl rfl ?_
      refine gf_12_7 C (hMo) (v := .ref (m + 1)) rfl dX12_station_38 rfl ?_
      refine g_iconst C (v := 3) dX12_station_41 (by decide) rfl ?_
      refine g_iload_n C 1 dX12_station_42 rfl rfl rfl ?_
      refine g_imul C dX12_station_43 rfl ?_
      refine g_topi (y := 0) (by decide) ?_
      refine g_iload_n C 0 dX12_station_44 rfl rfl rfl ?_
      refine g_iadd C dX12_station_45 rfl ?_
      refine g_topi (y := 1) (by decide) ?_
      refine g_aload_n C 2 dX12_station_46 rfl rfl rfl ?_
      refine g_iconst C (v := 4) dX12_station_47 (by decide) rfl ?_
      refine g_iload_n C 1 dX12_station_48 rfl rfl rfl ?_
      refine g_imul C dX12_station_49 rfl ?_
      refine g_topi (y := 0) (by decide) ?_
      refine g_iload_n C 0 dX12_station_50 rfl rfl rfl ?_
      refine g_iadd C dX12_station_51 rfl ?_
      refine g_topi (y := 1) (by decide) ?_
      refine g_callVi C (As := [.int (1)]) (q := (RX12, TX12, 36)) (kF_X12_figure l D b z hMo hR17 (k := 1) (by decide)) hw_12_64 (hMo) rfl (by decide) rfl rfl (Nat.le_of_ble_eq_true rfl) ⟨Nat.zero_le _, Nat.zero_le _⟩ dX12_station_52 (pc' := 55) rfl ?_
      rintro r5 h9 ⟨er, e9⟩
      subst h9; subst er
      refine g_topi (y := nI (dgt (gB σ 17 1))) ((mgT hg14 (v := 0) (w := 1) (by decide) (by decide)).1) ?_
      refine g_iast' C (hR2) (j := 1) rfl (by omega) (by decide) dX12_station_55 (pc' := 56) rfl (fun h6 e7 o8 => ?_)
      have hR2 : h6 (m + 1) = some (cI D 9 (upd (upd (tnS σ) (0) (nI (dgt (gB σ 17 0)))) (1) (nI (dgt (gB σ 17 1))))) := e7
      have hMo : h6 (m) = some (.inr (12, [.int (nI (gN σ 0)), .int (nI (gN σ 1)), .ref (m + 1), .int (nI (gN σ 3)), .int (nI (gN σ 4)), .int (gI σ 5), .int (nI (gN σ 6)), .ref (m + 2), .int (nI (gN σ 8)), .ref (m + 3), .ref (m + 4), .ref (m + 5), .ref (m + 6), .int (nI (gN σ 13)), .ref (m + 7), .ref (m + 8), .int (nI (gN σ 16)), .ref (m + 9), .long (s18), .int (s19), .int (s20), .ref (m + 10), .ref (m + 11), .int (s23), .int (s24), .int (nI (gN σ 25)), .int (nI (gN σ 26)), .int (gI σ 27), .int (nI (gN σ 28)), .int (nI (gN σ 29)), .int (nI (gN σ 30)), .ref (m + 12), .ref (m + 13), .ref (m + 14), .ref (m + 15), .long (s35)])) := (o8 _ (by omega)).trans hMo
      have hR7 : h6 (m + 2) = some (cI D 5 (gB σ 7)) := (o8 _ (by omega)).trans hR7
      have hR9 : h6 (m + 3) = some (cI D 4 (kdS σ)) := (o8 _ (by omega)).trans hR9
      have hR10 : h6 (m + 4) = some (cI D 4 (gB σ 10)) := (o8 _ (by omega)).trans hR10
      have hR11 : h6 (m + 5) = some (cI D 4 (gB σ 11)) := (o8 _ (by omega)).trans hR11
      have hR12 : h6 (m + 6) = some (cI D 4 (gB σ 12)) := (o8 _ (by omega)).trans hR12
      have hR14 : h6 (m + 7) = some (cI D 12 (gB σ 14)) := (o8 _ (by omega)).trans hR14
      have hR15 : h6 (m + 8) = some (cI D 12 (gB σ 15)) := (o8 _ (by omega)).trans hR15
      have hR17 : h6 (m + 9) = some (cB D 16 (gB σ 17)) := (o8 _ (by omega)).trans hR17
      have hR21 : h6 (m + 10) = some (cI D 5 (f21)) := (o8 _ (by omega)).trans hR21
      have hR22 : h6 (m + 11) = some (cI D 5 (f22)) := (o8 _ (by omega)).trans hR22
      have hR31 : h6 (m + 12) = some (cI D 5 (gB σ 31)) := (o8 _ (by omega)).trans hR31
      have hR32 : h6 (m + 13) = some (cI D 4 (gB σ 32)) := (o8 _ (by omega)).trans hR32
      have hR33 : h6 (m + 14) = some (cI D 12 (gB σ 33)) := (o8 _ (by omega)).trans hR33
      have hR34 : h6 (m + 15) = some (cI D 12 (gB σ 34)) := (o8 _ (by omega)).trans hR34
      have hO : ∀ q, (q < m ∨ m + 16 ≤ q) → h6 q = h q := fun q hq => (o8 q (by omega)).trans (hO q hq)
      refine g_iinc C (v := 2) 0 ([(2, .int (2)), (1, .int (0)), (0, .ref (m))]) dX12_station_56 rfl (by decide) (by decide) rfl rfl ?_
      refine g_goto C dX12_station_59 (tgt := 32) (by decide) ?_
      refine g_iload_n C 0 dX12_station_32 rfl rfl rfl ?_
      refine g_iconst C (v := 3) dX12_station_33 (by decide) rfl ?_
      refine g_icmp_ge C dX12_station_34 (tgt := 62) (by decide) (pc' := 37) rfl (fun c34 => absurd c34 (by decide)) (fun _ => ?_)
      refine g_aload_n C 2 dX12_station_37 rfl rfl rfl ?_
      refine gf_12_7 C (hMo) (v := .ref (m + 1)) rfl dX12_station_38 rfl ?_
      refine g_iconst C (v := 3) dX12_station_41 (by decide) rfl ?_
      refine g_iload_n C 1 dX12_station_42 rfl rfl rfl ?_
      refine g_imul C dX12_station_43 rfl ?_
      refine g_topi (y := 0) (by decide) ?_
      refine g_iload_n C 0 dX12_station_44 rfl rfl rfl ?_
      refine g_iadd C dX12_station_45 rfl ?_
      refine g_topi (y := 2) (by decide) ?_
      refine g_aload_n C 2 dX12_station_46 rfl rfl rfl ?_
      refine g_iconst C (v := 4) dX12_station_47 (by decide) rfl ?_
      refine g_iload_n C 1 dX12_station_48 rfl rfl rfl ?_
      refine g_imul C dX12_station_49 rfl ?_
      refine g_topi (y := 0) (by decide) ?_
      refine g_iload_n C 0 dX12_station_50 rfl rfl rfl ?_
      refine g_iadd C dX12_station_51 rfl ?_
      refine g_topi (y := 2) (by decide) ?_
      refine g_callVi C (As := [.int (2)]) (q := (RX12, TX12, 36)) (kF_X12_figure l D b z hMo hR17 (k := 2) (by decide)) hw_12_64 (hMo) rfl (by decide) rfl rfl (Nat.le_of_ble_eq_true rfl) ⟨Nat.zero_le _, Nat.zero_le _⟩ dX12_station_52 (pc' := 55) rfl ?_
      rintro r9 h9 ⟨er, e9⟩
      subst h9; subst er
      refine g_topi (y := nI (dgt (gB σ 17 2))) ((mgT hg14 (v := 0) (w := 2) (by decide) (by decide)).1) ?_
      refine g_iast' C (hR2) (j := 2) rfl (by omega) (by decide) dX12_station_55 (pc' := 56) rfl (fun h10 e11 o12 => ?_)
      have hR2 : h10 (m + 1) = some (cI D 9 (upd (upd (upd (tnS σ) (0) (nI (dgt (gB σ 17 0)))) (1) (nI (dgt (gB σ 17 1)))) (2) (nI (dgt (gB σ 17 2))))) := e11
      have hMo : h10 (m) = some (.inr (12, [.int (nI (gN σ 0)), .int (nI (gN σ 1)), .ref (m + 1), .int (nI (gN σ 3)), .int (nI (gN σ 4)), .int (gI σ 5), .int (nI (gN σ 6)), .ref (m + 2), .int (nI (gN σ 8)), .ref (m + 3), .ref (m + 4), .ref (m + 5), .ref (m + 6), .int (nI (gN σ 13)), .ref (m + 7), .ref (m + 8), .int (nI (gN σ 16)), .ref (m + 9), .long (s18), .int (s19), .int (s20), .ref (m + 10), .ref (m + 11), .int (s23), .int (s24), .int (nI (gN σ 25)), .int (nI (gN σ 26)), .int (gI σ 27), .int (nI (gN σ 28)), .int (nI (gN σ 29)), .int (nI (gN σ 30)), .ref (m + 12), .ref (m + 13), .ref (m + 14), .ref (m + 15), .long (s35)])) := (o12 _ (by omega)).trans hMo
      have hR7 : h10 (m + 2) = some (cI D 5 (gB σ 7)) := (o12 _ (by omega)).trans hR7
      have hR9 : h10 (m + 3) = some (cI D 4 (kdS σ)) := (o12 _ (by omega)).trans hR9
      have hR10 : h10 (m + 4) = some (cI D 4 (gB σ 10)) := (o12 _ (by omega)).trans hR10
      have hR11 : h10 (m + 5) = some (cI D 4 (gB σ 11)) := (o12 _ (by omega)).trans hR11
      have hR12 : h10 (m + 6) = some (cI D 4 (gB σ 12)) := (o12 _ (by omega)).trans hR12
      have hR14 : h10 (m + 7) = some (cI D 12 (gB σ 14)) := (o12 _ (by omega)).trans hR14
      have hR15 : h10 (m + 8) = some (cI D 12 (gB σ 15)) := (o12 _ (by omega)).trans hR15
      have hR17 : h10 (m + 9) = some (cB D 16 (gB σ 17)) := (o12 _ (by omega)).trans hR17
      have hR21 : h10 (m + 10) = some (cI D 5 (f21)) := (o12 _ (by omega)).trans hR21
      have hR22 : h10 (m + 11) = some (cI D 5 (f22)) := (o12 _ (by omega)).trans hR22
      have hR31 : h10 (m + 12) = some (cI D 5 (gB σ 31)) := (o12 _ (by omega)).trans hR31
      have hR32 : h10 (m + 13) = some (cI D 4 (gB σ 32)) := (o12 _ (by omega)).trans hR32
      have hR33 : h10 (m + 14) = some (cI D 12 (gB σ 33)) := (o12 _ (by omega)).trans hR33
      have hR34 : h10 (m + 15) = some (cI D 12 (gB σ 34)) := (o12 _ (by omega)).trans hR34
      have hO : ∀ q, (q < m ∨ m + 16 ≤ q) → h10 q = h q := fun q hq => (o12 q (by omega)).trans (hO q hq)
      refine g_iinc C (v := 3) 0 ([(2, .int (3)), (1, .int (0)), (0, .ref (m))]) dX12_station_56 rfl (by decide) (by decide) rfl rfl ?_
      refine g_goto C dX12_station_59 (tgt := 32) (by decide) ?_
      refine g_iload_n C 0 dX12_station_32 rfl rfl rfl ?_
      refine g_iconst C (v := 3) dX12_station_33 (by decide) rfl ?_
      refine g_icmp_ge C dX12_station_34 (tgt := 62) (by decide) (pc' := 37) rfl (fun _ => ?_) (fun c34 => absurd (by decide) c34)
      refine g_iinc C (v := 1) 1 ([(1, .int (1)), (2, .int (3)), (0, .ref (m))]) dX12_station_62 rfl (by decide) (by decide) rfl rfl ?_
      refine g_goto C dX12_station_65 (tgt := 25) (by decide) ?_
      refine g_iload_n C 0 dX12_station_25 rfl rfl rfl ?_
      refine g_iconst C (v := 3) dX12_station_26 (by decide) rfl ?_
      refine g_icmp_ge C dX12_station_27 (tgt := 68) (by decide) (pc' := 30) rfl (fun c27 => absurd c27 (by decide)) (fun _ => ?_)
      refine g_iconst C (v := 0) dX12_station_30 (by decide) rfl ?_
      refine g_istore_n C ([(2, .int (0)), (1, .int (1)), (0, .ref (m))]) dX12_station_31 rfl (by decide) rfl rfl ?_
      refine g_iload_n C 0 dX12_station_32 rfl rfl rfl ?_
      refine g_iconst C (v := 3) dX12_station_33 (by decide) rfl ?_
      refine g_icmp_ge C dX12_station_34 (tgt := 62) (by decide) (pc' := 37) rfl (fun c34 => absurd c34 (by decide)) (fun _ => ?_)
      refine g_aload_n C 2 dX12_station_37 rfl rfl rfl ?_
      refine gf_12_7 C (hMo) (v := .ref (m + 1)) rfl dX12_station_38 rfl ?_
      refine g_iconst C (v := 3) dX12_station_41 (by decide) rfl ?_
      refine g_iload_n C 1 dX12_station_42 rfl rfl rfl ?_
      refine g_imul C dX12_station_43 rfl ?_
      refine g_topi (y := 3) (by decide) ?_
      refine g_iload_n C 0 dX12_station_44 rfl rfl rfl ?_
      refine g_iadd C dX12_station_45 rfl ?_
      refine g_topi (y := 3) (by decide) ?_
      refine g_aload_n C 2 dX12_station_46 rfl rfl rfl ?_
      refine g_iconst C (v := 4) dX12_station_47 (by decide) rfl ?_
      refine g_iload_n C 1 dX12_station_48 rfl rfl rfl ?_
      refine g_imul C dX12_station_49 rfl ?_
      refine g_topi (y := 4) (by decide) ?_
      refine g_iload_n C 0 dX12_station_50 rfl rfl rfl ?_
      refine g_iadd C dX12_station_51 rfl ?_
      refine g_topi (y := 4) (by decide) ?_
      refine g_callVi C (As := [.int (4)]) (q := (RX12, TX12, 36)) (kF_X12_figure l D b z hMo hR17 (k := 4) (by decide)) hw_12_64 (hMo) rfl (by decide) rfl rfl (Nat.le_of_ble_eq_true rfl) ⟨Nat.zero_le _, Nat.zero_le _⟩ dX12_station_52 (pc' := 55) rfl ?_
      rintro r13 h9 ⟨er, e9⟩
      subst h9; subst er
      refine g_topi (y := nI (dgt (gB σ 17 4))) ((mgT hg14 (v := 1) (w := 0) (by decide) (by decide)).1) ?_
      refine g_iast' C (hR2) (j := 3) rfl (by omega) (by decide) dX12_station_55 (pc' := 56) rfl (fun h14 e15 o16 => ?_)
      have hR2 : h14 (m + 1) = some (cI D 9 (upd (upd (upd (upd (tnS σ) (0) (nI (dgt (gB σ 17 0)))) (1) (nI (dgt (gB σ 17 1)))) (2) (nI (dgt (gB σ 17 2)))) (3) (nI (dgt (gB σ 17 4))))) := e15
      have hMo : h14 (m) = some (.inr (12, [.int (nI (gN σ 0)), .int (nI (gN σ 1)), .ref (m + 1), .int (nI (gN σ 3)), .int (nI (gN σ 4)), .int (gI σ 5), .int (nI (gN σ 6)), .ref (m + 2), .int (nI (gN σ 8)), .ref (m + 3), .ref (m + 4), .ref (m + 5), .ref (m + 6), .int (nI (gN σ 13)), .ref (m + 7), .ref (m + 8), .int (nI (gN σ 16)), .ref (m + 9), .long (s18), .int (s19), .int (s20), .ref (m + 10), .ref (m + 11), .int (s23), .int (s24), .int (nI (gN σ 25)), .int (nI (gN σ 26)), .int (gI σ 27), .int (nI (gN σ 28)), .int (nI (gN σ 29)), .int (nI (gN σ 30)), .ref (m + 12), .ref (m + 13), .ref (m + 14), .ref (m + 15), .long (s35)])) := (o16 _ (by omega)).trans hMo
      have hR7 : h14 (m + 2) = some (cI D 5 (gB σ 7)) := (o16 _ (by omega)).trans hR7
      have hR9 : h14 (m + 3) = some (cI D 4 (kdS σ)) := (o16 _ (by omega)).trans hR9
      have hR10 : h14 (m + 4) = some (cI D 4 (gB σ 10)) := (o16 _ (by omega)).trans hR10
      have hR11 : h14 (m + 5) = some (cI D 4 (gB σ 11)) := (o16 _ (by omega)).trans hR11
      have hR12 : h14 (m + 6) = some (cI D 4 (gB σ 12)) := (o16 _ (by omega)).trans hR12
      have hR14 : h14 (m + 7) = some (cI D 12 (gB σ 14)) := (o16 _ (by omega)).trans hR14
      have hR15 : h14 (m + 8) = some (cI D 12 (gB σ 15)) := (o16 _ (by omega)).trans hR15
      have hR17 : h14 (m + 9) = some (cB D 16 (gB σ 17)) := (o16 _ (by omega)).trans hR17
      have hR21 : h14 (m + 10) = some (cI D 5 (f21)) := (o16 _ (by omega)).trans hR21
      have hR22 : h14 (m + 11) = some (cI D 5 (f22)) := (o16 _ (by omega)).trans hR22
      have hR31 : h14 (m + 12) = some (cI D 5 (gB σ 31)) := (o16 _ (by omega)).trans hR31
      have hR32 : h14 (m + 13) = some (cI D 4 (gB σ 32)) := (o16 _ (by omega)).trans hR32
      have hR33 : h14 (m + 14) = some (cI D 12 (gB σ 33)) := (o16 _ (by omega)).trans hR33
      have hR34 : h14 (m + 15) = some (cI D 12 (gB σ 34)) := (o16 _ (by omega)).trans hR34
      have hO : ∀ q, (q < m ∨ m + 16 ≤ q) → h14 q = h q := fun q hq => (o16 q (by omega)).trans (hO q hq)
      refine g_iinc C (v := 1) 0 ([(2, .int (1)), (1, .int (1)), (0, .ref (m))]) dX12_station_56 rfl (by decide) (by decide) rfl rfl ?_
      refine g_goto C dX12_station_59 (tgt := 32) (by decide) ?_
      refine g_iload_n C 0 dX12_station_32 rfl rfl rfl ?_
      refine g_iconst C (v := 3) dX12_station_33 (by decide) rfl ?_
      refine g_icmp_ge C dX12_station_34 (tgt := 62) (by decide) (pc' := 37) rfl (fun c34 => absurd c34 (by decide)) (fun _ => ?_)
      refine g_aload_n C 2 dX12_station_37 rfl rfl rfl ?_
      refine gf_12_7 C (hMo) (v := .ref (m + 1)) rfl dX12_station_38 rfl ?_
      refine g_iconst C (v := 3) dX12_station_41 (by decide) rfl ?_
      refine g_iload_n C 1 dX12_station_42 rfl rfl rfl ?_
      refine g_imul C dX12_station_43 rfl ?_
      refine g_topi (y := 3) (by decide) ?_
      refine g_iload_n C 0 dX12_station_44 rfl rfl rfl ?_
      refine g_iadd C dX12_station_45 rfl ?_
      refine g_topi (y := 4) (by decide) ?_
      refine g_aload_n C 2 dX12_station_46 rfl rfl rfl ?_
      refine g_iconst C (v := 4) dX12_station_47 (by decide) rfl ?_
      refine g_iload_n C 1 dX12_station_48 rfl rfl rfl ?_
      refine g_imul C dX12_station_49 rfl ?_
      refine g_topi (y := 4) (by decide) ?_
      refine g_iload_n C 0 dX12_station_50 rfl rfl rfl ?_
      refine g_iadd C dX12_station_51 rfl ?_
      refine g_topi (y := 5) (by decide) ?_
      refine g_callVi C (As := [.int (5)]) (q := (RX12, TX12, 36)) (kF_X12_figure l D b z hMo hR17 (k := 5) (by decide)) hw_12_64 (hMo) rfl (by decide) rfl rfl (Nat.le_of_ble_eq_true rfl) ⟨Nat.zero_le _, Nat.zero_le _⟩ dX12_station_52 (pc' := 55) rfl ?_
      rintro r17 h9 ⟨er, e9⟩
      subst h9; subst er
      refine g_topi (y := nI (dgt (gB σ 17 5))) ((mgT hg14 (v := 1) (w := 1) (by decide) (by decide)).1) ?_
      refine g_iast' C (hR2) (j := 4) rfl (by omega) (by decide) dX12_station_55 (pc' := 56) rfl (fun h18 e19 o20 => ?_)
      have hR2 : h18 (m + 1) = some (cI D 9 (upd (upd (upd (upd (upd (tnS σ) (0) (nI (dgt (gB σ 17 0)))) (1) (nI (dgt (gB σ 17 1)))) (2) (nI (dgt (gB σ 17 2)))) (3) (nI (dgt (gB σ 17 4)))) (4) (nI (dgt (gB σ 17 5))))) := e19
      have hMo : h18 (m) = some (.inr (12, [.int (nI (gN σ 0)), .int (nI (gN σ 1)), .ref (m + 1), .int (nI (gN σ 3)), .int (nI (gN σ 4)), .int (gI σ 5), .int (nI (gN σ 6)), .ref (m + 2), .int (nI (gN σ 8)), .ref (m + 3), .ref (m + 4), .ref (m + 5), .ref (m + 6), .int (nI (gN σ 13)), .ref (m + 7), .ref (m + 8), .int (nI (gN σ 16)), .ref (m + 9), .long (s18), .int (s19), .int (s20), .ref (m + 10), .ref (m + 11), .int (s23), .int (s24), .int (nI (gN σ 25)), .int (nI (gN σ 26)), .int (gI σ 27), .int (nI (gN σ 28)), .int (nI (gN σ 29)), .int (nI (gN σ 30)), .ref (m + 12), .ref (m + 13), .ref (m + 14), .ref (m + 15), .long (s35)])) := (o20 _ (by omega)).trans hMo
      have hR7 : h18 (m + 2) = some (cI D 5 (gB σ 7)) := (o20 _ (by omega)).trans hR7
      have hR9 : h18 (m + 3) = some (cI D 4 (kdS σ)) := (o20 _ (by omega)).trans hR9
      have hR10 : h18 (m + 4) = some (cI D 4 (gB σ 10)) := (o20 _ (by omega)).trans hR10
      have hR11 : h18 (m + 5) = some (cI D 4 (gB σ 11)) := (o20 _ (by omega)).trans hR11
      have hR12 : h18 (m + 6) = some (cI D 4 (gB σ 12)) := (o20 _ (by omega)).trans hR12
      have hR14 : h18 (m + 7) = some (cI D 12 (gB σ 14)) := (o20 _ (by omega)).trans hR14
      have hR15 : h18 (m + 8) = some (cI D 12 (gB σ 15)) := (o20 _ (by omega)).trans hR15
      have hR17 : h18 (m + 9) = some (cB D 16 (gB σ 17)) := (o20 _ (by omega)).trans hR17
      have hR21 : h18 (m + 10) = some (cI D 5 (f21)) := (o20 _ (by omega)).trans hR21
      have hR22 : h18 (m + 11) = some (cI D 5 (f22)) := (o20 _ (by omega)).trans hR22
      have hR31 : h18 (m + 12) = some (cI D 5 (gB σ 31)) := (o20 _ (by omega)).trans hR31
      have hR32 : h18 (m + 13) = some (cI D 4 (gB σ 32)) := (o20 _ (by omega)).trans hR32
      have hR33 : h18 (m + 14) = some (cI D 12 (gB σ 33)) := (o20 _ (by omega)).trans hR33
      have hR34 : h18 (m + 15) = some (cI D 12 (gB σ 34)) := (o20 _ (by omega)).trans hR34
      have hO : ∀ q, (q < m ∨ m + 16 ≤ q) → h18 q = h q := fun q hq => (o20 q (by omega)).trans (hO q hq)
      refine g_iinc C (v := 2) 0 ([(2, .int (2)), (1, .int (1)), (0, .ref (m))]) dX12_station_56 rfl (by decide) (by decide) rfl rfl ?_
      refine g_goto C dX12_station_59 (tgt := 32) (by decide) ?_
      refine g_iload_n C 0 dX12_station_32 rfl rfl rfl ?_
      refine g_iconst C (v := 3) dX12_station_33 (by decide) rfl ?_
      refine g_icmp_ge C dX12_station_34 (tgt := 62) (by decide) (pc' := 37) rfl (fun c34 => absurd c34 (by decide)) (fun _ => ?_)
      refine g_aload_n C 2 dX12_station_37 rfl rfl rfl ?_
      refine gf_12_7 C (hMo) (v := .ref (m + 1)) rfl dX12_station_38 rfl ?_
      refine g_iconst C (v := 3) dX12_station_41 (by decide) rfl ?_
      refine g_iload_n C 1 dX12_station_42 rfl rfl rfl ?_
      refine g_imul C dX12_station_43 rfl ?_
      refine g_topi (y := 3) (by decide) ?_
      refine g_iload_n C 0 dX12_station_44 rfl rfl rfl ?_
      refine g_iadd C dX12_station_45 rfl ?_
      refine g_topi (y := 5) (by decide) ?_
      refine g_aload_n C 2 dX12_station_46 rfl rfl rfl ?_
      refine g_iconst C (v := 4) dX12_station_47 (by decide) rfl ?_
      refine g_iload_n C 1 dX12_station_48 rfl rfl rfl ?_
      refine g_imul C dX12_station_49 rfl ?_
      refine g_topi (y := 4) (by decide) ?_
      refine g_iload_n C 0 dX12_station_50 rfl rfl rfl ?_
      refine g_iadd C dX12_station_51 rfl ?_
      refine g_topi (y := 6) (by decide) ?_
      refine g_callVi C (As := [.int (6)]) (q := (RX12, TX12, 36)) (kF_X12_figure l D b z hMo hR17 (k := 6) (by decide)) hw_12_64 (hMo) rfl (by decide) rfl rfl (Nat.le_of_ble_eq_true rfl) ⟨Nat.zero_le _, Nat.zero_le _⟩ dX12_station_52 (pc' := 55) rfl ?_
      rintro r21 h9 ⟨er, e9⟩
      subst h9; subst er
      refine g_topi (y := nI (dgt (gB σ 17 6))) ((mgT hg14 (v := 1) (w := 2) (by decide) (by decide)).1) ?_
      refine g_iast' C (hR2) (j := 5) rfl (by omega) (by decide) dX12_station_55 (pc' := 56) rfl (fun h22 e23 o24 => ?_)
      have hR2 : h22 (m + 1) = some (cI D 9 (upd (upd (upd (upd (upd (upd (tnS σ) (0) (nI (dgt (gB σ 17 0)))) (1) (nI (dgt (gB σ 17 1)))) (2) (nI (dgt (gB σ 17 2)))) (3) (nI (dgt (gB σ 17 4)))) (4) (nI (dgt (gB σ 17 5)))) (5) (nI (dgt (gB σ 17 6))))) := e23
      have hMo : h22 (m) = some (.inr (12, [.int (nI (gN σ 0)), .int (nI (gN σ 1)), .ref (m + 1), .int (nI (gN σ 3)), .int (nI (gN σ 4)), .int (gI σ 5), .int (nI (gN σ 6)), .ref (m + 2), .int (nI (gN σ 8)), .ref (m + 3), .ref (m + 4), .ref (m + 5), .ref (m + 6), .int (nI (gN σ 13)), .ref (m + 7), .ref (m + 8), .int (nI (gN σ 16)), .ref (m + 9), .long (s18), .int (s19), .int (s20), .ref (m + 10), .ref (m + 11), .int (s23), .int (s24), .int (nI (gN σ 25)), .int (nI (gN σ 26)), .int (gI σ 27), .int (nI (gN σ 28)), .int (nI (gN σ 29)), .int (nI (gN σ 30)), .ref (m + 12), .ref (m + 13), .ref (m + 14), .ref (m + 15), .long (s35)])) := (o24 _ (by omega)).trans hMo
      have hR7 : h22 (m + 2) = some (cI D 5 (gB σ 7)) := (o24 _ (by omega)).trans hR7
      have hR9 : h22 (m + 3) = some (cI D 4 (kdS σ)) := (o24 _ (by omega)).trans hR9
      have hR10 : h22 (m + 4) = some (cI D 4 (gB σ 10)) := (o24 _ (by omega)).trans hR10
      have hR11 : h22 (m + 5) = some (cI D 4 (gB σ 11)) := (o24 _ (by omega)).trans hR11
      have hR12 : h22 (m + 6) = some (cI D 4 (gB σ 12)) := (o24 _ (by omega)).trans hR12
      have hR14 : h22 (m + 7) = some (cI D 12 (gB σ 14)) := (o24 _ (by omega)).trans hR14
      have hR15 : h22 (m + 8) = some (cI D 12 (gB σ 15)) := (o24 _ (by omega)).trans hR15
      have hR17 : h22 (m + 9) = some (cB D 16 (gB σ 17)) := (o24 _ (by omega)).trans hR17
      have hR21 : h22 (m + 10) = some (cI D 5 (f21)) := (o24 _ (by omega)).trans hR21
      have hR22 : h22 (m + 11) = some (cI D 5 (f22)) := (o24 _ (by omega)).trans hR22
      have hR31 : h22 (m + 12) = some (cI D 5 (gB σ 31)) := (o24 _ (by omega)).trans hR31
      have hR32 : h22 (m + 13) = some (cI D 4 (gB σ 32)) := (o24 _ (by omega)).trans hR32
      have hR33 : h22 (m + 14) = some (cI D 12 (gB σ 33)) := (o24 _ (by omega)).trans hR33
      have hR34 : h22 (m + 15) = some (cI D 12 (gB σ 34)) := (o24 _ (by omega)).trans hR34
      have hO : ∀ q, (q < m ∨ m + 16 ≤ q) → h22 q = h q := fun q hq => (o24 q (by omega)).trans (hO q hq)
      refine g_iinc C (v := 3) 0 ([(2, .int (3)), (1, .int (1)), (0, .ref (m))]) dX12_station_56 rfl (by decide) (by decide) rfl rfl ?_
      refine g_goto C dX12_station_59 (tgt := 32) (by decide) ?_
      refine g_iload_n C 0 dX12_station_32 rfl rfl rfl ?_
      refine g_iconst C (v := 3) dX12_station_33 (by decide) rfl ?_
      refine g_icmp_ge C dX12_station_34 (tgt := 62) (by decide) (pc' := 37) rfl (fun _ => ?_) (fun c34 => absurd (by decide) c34)
      refine g_iinc C (v := 2) 1 ([(1, .int (2)), (2, .int (3)), (0, .ref (m))]) dX12_station_62 rfl (by decide) (by decide) rfl rfl ?_
      refine g_goto C dX12_station_65 (tgt := 25) (by decide) ?_
      refine g_iload_n C 0 dX12_station_25 rfl rfl rfl ?_
      refine g_iconst C (v := 3) dX12_station_26 (by decide) rfl ?_
      refine g_icmp_ge C dX12_station_27 (tgt := 68) (by decide) (pc' := 30) rfl (fun c27 => absurd c27 (by decide)) (fun _ => ?_)
      refine g_iconst C (v := 0) dX12_station_30 (by decide) rfl ?_
      refine g_istore_n C ([(2, .int (0)), (1, .int (2)), (0, .ref (m))]) dX12_station_31 rfl (by decide) rfl rfl ?_
      refine g_iload_n C 0 dX12_station_32 rfl rfl rfl ?_
      refine g_iconst C (v := 3) dX12_station_33 (by decide) rfl ?_
      refine g_icmp_ge C dX12_station_34 (tgt := 62) (by decide) (pc' := 37) rfl (fun c34 => absurd c34 (by decide)) (fun _ => ?_)
      refine g_aload_n C 2 dX12_station_37 rfl rfl rfl ?_
      refine gf_12_7 C (hMo) (v := .ref (m + 1)) rfl dX12_station_38 rfl ?_
      refine g_iconst C (v := 3) dX12_station_41 (by decide) rfl ?_
      refine g_iload_n C 1 dX12_station_42 rfl rfl rfl ?_
      refine g_imul C dX12_station_43 rfl ?_
      refine g_topi (y := 6) (by decide) ?_
      refine g_iload_n C 0 dX12_station_44 rfl rfl rfl ?_
      refine g_iadd C dX12_station_45 rfl ?_
      refine g_topi (y := 6) (by decide) ?_
      refine g_aload_n C 2 dX12_station_46 rfl rfl rfl ?_
      refine g_iconst C (v := 4) dX12_station_47 (by decide) rfl ?_
      refine g_iload_n C 1 dX12_station_48 rfl rfl rfl ?_
      refine g_imul C dX12_station_49 rfl ?_
      refine g_topi (y := 8) (by decide) ?_
      refine g_iload_n C 0 dX12_station_50 rfl rfl rfl ?_
      refine g_iadd C dX12_station_51 rfl ?_
      refine g_topi (y := 8) (by decide) ?_
      refine g_callVi C (As := [.int (8)]) (q := (RX12, TX12, 36)) (kF_X12_figure l D b z hMo hR17 (k := 8) (by decide)) hw_12_64 (hMo) rfl (by decide) rfl rfl (Nat.le_of_ble_eq_true rfl) ⟨Nat.zero_le _, Nat.zero_le _⟩ dX12_station_52 (pc' := 55) rfl ?_
      rintro r25 h9 ⟨er, e9⟩
      subst h9; subst er
      refine g_topi (y := nI (dgt (gB σ 17 8))) ((mgT hg14 (v := 2) (w := 0) (by decide) (by decide)).1) ?_
      refine g_iast' C (hR2) (j := 6) rfl (by omega) (by decide) dX12_station_55 (pc' := 56) rfl (fun h26 e27 o28 => ?_)
      have hR2 : h26 (m + 1) = some (cI D 9 (upd (upd (upd (upd (upd (upd (upd (tnS σ) (0) (nI (dgt (gB σ 17 0)))) (1) (nI (dgt (gB σ 17 1)))) (2) (nI (dgt (gB σ 17 2)))) (3) (nI (dgt (gB σ 17 4)))) (4) (nI (dgt (gB σ 17 5)))) (5) (nI (dgt (gB σ 17 6)))) (6) (nI (dgt (gB σ 17 8))))) := e27
      have hMo : h26 (m) = some (.inr (12, [.int (nI (gN σ 0)), .int (nI (gN σ 1)), .ref (m + 1), .int (nI (gN σ 3)), .int (nI (gN σ 4)), .int (gI σ 5), .int (nI (gN σ 6)), .ref (m + 2), .int (nI (gN σ 8)), .ref (m + 3), .ref (m + 4), .ref (m + 5), .ref (m + 6), .int (nI (gN σ 13)), .ref (m + 7), .ref (m + 8), .int (nI (gN σ 16)), .ref (m + 9), .long (s18), .int (s19), .int (s20), .ref (m + 10), .ref (m + 11), .int (s23), .int (s24), .int (nI (gN σ 25)), .int (nI (gN σ 26)), .int (gI σ 27), .int (nI (gN σ 28)), .int (nI (gN σ 29)), .int (nI (gN σ 30)), .ref (m + 12), .ref (m + 13), .ref (m + 14), .ref (m + 15), .long (s35)])) := (o28 _ (by omega)).trans hMo
      have hR7 : h26 (m + 2) = some (cI D 5 (gB σ 7)) := (o28 _ (by omega)).trans hR7
      have hR9 : h26 (m + 3) = some (cI D 4 (kdS σ)) := (o28 _ (by omega)).trans hR9
      have hR10 : h26 (m + 4) = some (cI D 4 (gB σ 10)) := (o28 _ (by omega)).trans hR10
      have hR11 : h26 (m + 5) = some (cI D 4 (gB σ 11)) := (o28 _ (by omega)).trans hR11
      have hR12 : h26 (m + 6) = some (cI D 4 (gB σ 12)) := (o28 _ (by omega)).trans hR12
      have hR14 : h26 (m + 7) = some (cI D 12 (gB σ 14)) := (o28 _ (by omega)).trans hR14
      have hR15 : h26 (m + 8) = some (cI D 12 (gB σ 15)) := (o28 _ (by omega)).trans hR15
      have hR17 : h26 (m + 9) = some (cB D 16 (gB σ 17)) := (o28 _ (by omega)).trans hR17
      have hR21 : h26 (m + 10) = some (cI D 5 (f21)) := (o28 _ (by omega)).trans hR21
      have hR22 : h26 (m + 11) = some (cI D 5 (f22)) := (o28 _ (by omega)).trans hR22
      have hR31 : h26 (m + 12) = some (cI D 5 (gB σ 31)) := (o28 _ (by omega)).trans hR31
      have hR32 : h26 (m + 13) = some (cI D 4 (gB σ 32)) := (o28 _ (by omega)).trans hR32
      have hR33 : h26 (m + 14) = some (cI D 12 (gB σ 33)) := (o28 _ (by omega)).trans hR33
      have hR34 : h26 (m + 15) = some (cI D 12 (gB σ 34)) := (o28 _ (by omega)).trans hR34
      have hO : ∀ q, (q < m ∨ m + 16 ≤ q) → h26 q = h q := fun q hq => (o28 q (by omega)).trans (hO q hq)
      refine g_iinc C (v := 1) 0 ([(2, .int (1)), (1, .int (2)), (0, .ref (m))]) dX12_station_56 rfl (by decide) (by decide) rfl rfl ?_
      refine g_goto C dX12_station_59 (tgt := 32) (by decide) ?_
      refine g_iload_n C 0 dX12_station_32 rfl rfl rfl ?_
      refine g_iconst C (v := 3) dX12_station_33 (by decide) rfl ?_
      refine g_icmp_ge C dX12_station_34 (tgt := 62) (by decide) (pc' := 37) rfl (fun c34 => absurd c34 (by decide)) (fun _ => ?_)
      refine g_aload_n C 2 dX12_station_37 rfl rfl rfl ?_
      refine gf_12_7 C (hMo) (v := .ref (m + 1)) rfl dX12_station_38 rfl ?_
      refine g_iconst C (v := 3) dX12_station_41 (by decide) rfl ?_
      refine g_iload_n C 1 dX12_station_42 rfl rfl rfl ?_
      refine g_imul C dX12_station_43 rfl ?_
      refine g_topi (y := 6) (by decide) ?_
      refine g_iload_n C 0 dX12_station_44 rfl rfl rfl ?_
      refine g_iadd C dX12_station_45 rfl ?_
      refine g_topi (y := 7) (by decide) ?_
      refine g_aload_n C 2 dX12_station_46 rfl rfl rfl ?_
      refine g_iconst C (v := 4) dX12_station_47 (by decide) rfl ?_
      refine g_iload_n C 1 dX12_station_48 rfl rfl rfl ?_
      refine g_imul C dX12_station_49 rfl ?_
      refine g_topi (y := 8) (by decide) ?_
      refine g_iload_n C 0 dX12_station_50 rfl rfl rfl ?_
      refine g_iadd C dX12_station_51 rfl ?_
      refine g_topi (y := 9) (by decide) ?_
      refine g_callVi C (As := [.int (9)]) (q := (RX12, TX12, 36)) (kF_X12_figure l D b z hMo hR17 (k := 9) (by decide)) hw_12_64 (hMo) rfl (by decide) rfl rfl (Nat.le_of_ble_eq_true rfl) ⟨Nat.zero_le _, Nat.zero_le _⟩ dX12_station_52 (pc' := 55) rfl ?_
      rintro r29 h9 ⟨er, e9⟩
      subst h9; subst er
      refine g_topi (y := nI (dgt (gB σ 17 9))) ((mgT hg14 (v := 2) (w := 1) (by decide) (by decide)).1) ?_
      refine g_iast' C (hR2) (j := 7) rfl (by omega) (by decide) dX12_station_55 (pc' := 56) rfl (fun h30 e31 o32 => ?_)
      have hR2 : h30 (m + 1) = some (cI D 9 (upd (upd (upd (upd (upd (upd (upd (upd (tnS σ) (0) (nI (dgt (gB σ 17 0)))) (1) (nI (dgt (gB σ 17 1)))) (2) (nI (dgt (gB σ 17 2)))) (3) (nI (dgt (gB σ 17 4)))) (4) (nI (dgt (gB σ 17 5)))) (5) (nI (dgt (gB σ 17 6)))) (6) (nI (dgt (gB σ 17 8)))) (7) (nI (dgt (gB σ 17 9))))) := e31
      have hMo : h30 (m) = some (.inr (12, [.int (nI (gN σ 0)), .int (nI (gN σ 1)), .ref (m + 1), .int (nI (gN σ 3)), .int (nI (gN σ 4)), .int (gI σ 5), .int (nI (gN σ 6)), .ref (m + 2), .int (nI (gN σ 8)), .ref (m + 3), .ref (m + 4), .ref (m + 5), .ref (m + 6), .int (nI (gN σ 13)), .ref (m + 7), .ref (m + 8), .int (nI (gN σ 16)), .ref (m + 9), .long (s18), .int (s19), .int (s20), .ref (m + 10), .ref (m + 11), .int (s23), .int (s24), .int (nI (gN σ 25)), .int (nI (gN σ 26)), .int (gI σ 27), .int (nI (gN σ 28)), .int (nI (gN σ 29)), .int (nI (gN σ 30)), .ref (m + 12), .ref (m + 13), .ref (m + 14), .ref (m + 15), .long (s35)])) := (o32 _ (by omega)).trans hMo
      have hR7 : h30 (m + 2) = some (cI D 5 (gB σ 7)) := (o32 _ (by omega)).trans hR7
      have hR9 : h30 (m + 3) = some (cI D 4 (kdS σ)) := (o32 _ (by omega)).trans hR9
      have hR10 : h30 (m + 4) = some (cI D 4 (gB σ 10)) := (o32 _ (by omega)).trans hR10
      have hR11 : h30 (m + 5) = some (cI D 4 (gB σ 11)) := (o32 _ (by omega)).trans hR11
      have hR12 : h30 (m + 6) = some (cI D 4 (gB σ 12)) := (o32 _ (by omega)).trans hR12
      have hR14 : h30 (m + 7) = some (cI D 12 (gB σ 14)) := (o32 _ (by omega)).trans hR14
      have hR15 : h30 (m + 8) = some (cI D 12 (gB σ 15)) := (o32 _ (by omega)).trans hR15
      have hR17 : h30 (m + 9) = some (cB D 16 (gB σ 17)) := (o32 _ (by omega)).trans hR17
      have hR21 : h30 (m + 10) = some (cI D 5 (f21)) := (o32 _ (by omega)).trans hR21
      have hR22 : h30 (m + 11) = some (cI D 5 (f22)) := (o32 _ (by omega)).trans hR22
      have hR31 : h30 (m + 12) = some (cI D 5 (gB σ 31)) := (o32 _ (by omega)).trans hR31
      have hR32 : h30 (m + 13) = some (cI D 4 (gB σ 32)) := (o32 _ (by omega)).trans hR32
      have hR33 : h30 (m + 14) = some (cI D 12 (gB σ 33)) := (o32 _ (by omega)).trans hR33
      have hR34 : h30 (m + 15) = some (cI D 12 (gB σ 34)) := (o32 _ (by omega)).trans hR34
      have hO : ∀ q, (q < m ∨ m + 16 ≤ q) → h30 q = h q := fun q hq => (o32 q (by omega)).trans (hO q hq)
      refine g_iinc C (v := 2) 0 ([(2, .int (2)), (1, .int (2)), (0, .ref (m))]) dX12_station_56 rfl (by decide) (by decide) rfl rfl ?_
      refine g_goto C dX12_station_59 (tgt := 32) (by decide) ?_
      refine g_iload_n C 0 dX12_station_32 rfl rfl rfl ?_
      refine g_iconst C (v := 3) dX12_station_33 (by decide) rfl ?_
      refine g_icmp_ge C dX12_station_34 (tgt := 62) (by decide) (pc' := 37) rfl (fun c34 => absurd c34 (by decide)) (fun _ => ?_)
      refine g_aload_n C 2 dX12_station_37 rfl rfl rfl ?_
      refine gf_12_7 C (hMo) (v := .ref (m + 1)) rfl dX12_station_38 rfl ?_
      refine g_iconst C (v := 3) dX12_station_41 (by decide) rfl ?_
      refine g_iload_n C 1 dX12_station_42 rfl rfl rfl ?_
      refine g_imul C dX12_station_43 rfl ?_
      refine g_topi (y := 6) (by decide) ?_
      refine g_iload_n C 0 dX12_station_44 rfl rfl rfl ?_
      refine g_iadd C dX12_station_45 rfl ?_
      refine g_topi (y := 8) (by decide) ?_
      refine g_aload_n C 2 dX12_station_46 rfl rfl rfl ?_
      refine g_iconst C (v := 4) dX12_station_47 (by decide) rfl ?_
      refine g_iload_n C 1 dX12_station_48 rfl rfl rfl ?_
      refine g_imul C dX12_station_49 rfl ?_
      refine g_topi (y := 8) (by decide) ?_
      refine g_iload_n C 0 dX12_station_50 rfl rfl rfl ?_
      refine g_iadd C dX12_station_51 rfl ?_
      refine g_topi (y := 10) (by decide) ?_
      refine g_callVi C (As := [.int (10)]) (q := (RX12, TX12, 36)) (kF_X12_figure l D b z hMo hR17 (k := 10) (by decide)) hw_12_64 (hMo) rfl (by decide) rfl rfl (Nat.le_of_ble_eq_true rfl) ⟨Nat.zero_le _, Nat.zero_le _⟩ dX12_station_52 (pc' := 55) rfl ?_
      rintro r33 h9 ⟨er, e9⟩
      subst h9; subst er
      refine g_topi (y := nI (dgt (gB σ 17 10))) ((mgT hg14 (v := 2) (w := 2) (by decide) (by decide)).1) ?_
      refine g_iast' C (hR2) (j := 8) rfl (by omega) (by decide) dX12_station_55 (pc' := 56) rfl (fun h34 e35 o36 => ?_)
      have hR2 : h34 (m + 1) = some (cI D 9 (upd (upd (upd (upd (upd (upd (upd (upd (upd (tnS σ) (0) (nI (dgt (gB σ 17 0)))) (1) (nI (dgt (gB σ 17 1)))) (2) (nI (dgt (gB σ 17 2)))) (3) (nI (dgt (gB σ 17 4)))) (4) (nI (dgt (gB σ 17 5)))) (5) (nI (dgt (gB σ 17 6)))) (6) (nI (dgt (gB σ 17 8)))) (7) (nI (dgt (gB σ 17 9)))) (8) (nI (dgt (gB σ 17 10))))) := e35
      have hMo : h34 (m) = some (.inr (12, [.int (nI (gN σ 0)), .int (nI (gN σ 1)), .ref (m + 1), .int (nI (gN σ 3)), .int (nI (gN σ 4)), .int (gI σ 5), .int (nI (gN σ 6)), .ref (m + 2), .int (nI (gN σ 8)), .ref (m + 3), .ref (m + 4), .ref (m + 5), .ref (m + 6), .int (nI (gN σ 13)), .ref (m + 7), .ref (m + 8), .int (nI (gN σ 16)), .ref (m + 9), .long (s18), .int (s19), .int (s20), .ref (m + 10), .ref (m + 11), .int (s23), .int (s24), .int (nI (gN σ 25)), .int (nI (gN σ 26)), .int (gI σ 27), .int (nI (gN σ 28)), .int (nI (gN σ 29)), .int (nI (gN σ 30)), .ref (m + 12), .ref (m + 13), .ref (m + 14), .ref (m + 15), .long (s35)])) := (o36 _ (by omega)).trans hMo
      have hR7 : h34 (m + 2) = some (cI D 5 (gB σ 7)) := (o36 _ (by omega)).trans hR7
      have hR9 : h34 (m + 3) = some (cI D 4 (kdS σ)) := (o36 _ (by omega)).trans hR9
      have hR10 : h34 (m + 4) = some (cI D 4 (gB σ 10)) := (o36 _ (by omega)).trans hR10
      have hR11 : h34 (m + 5) = some (cI D 4 (gB σ 11)) := (o36 _ (by omega)).trans hR11
      have hR12 : h34 (m + 6) = some (cI D 4 (gB σ 12)) := (o36 _ (by omega)).trans hR12
      have hR14 : h34 (m + 7) = some (cI D 12 (gB σ 14)) := (o36 _ (by omega)).trans hR14
      have hR15 : h34 (m + 8) = some (cI D 12 (gB σ 15)) := (o36 _ (by omega)).trans hR15
      have hR17 : h34 (m + 9) = some (cB D 16 (gB σ 17)) := (o36 _ (by omega)).trans hR17
      have hR21 : h34 (m + 10) = some (cI D 5 (f21)) := (o36 _ (by omega)).trans hR21
      have hR22 : h34 (m + 11) = some (cI D 5 (f22)) := (o36 _ (by omega)).trans hR22
      have hR31 : h34 (m + 12) = some (cI D 5 (gB σ 31)) := (o36 _ (by omega)).trans hR31
      have hR32 : h34 (m + 13) = some (cI D 4 (gB σ 32)) := (o36 _ (by omega)).trans hR32
      have hR33 : h34 (m + 14) = some (cI D 12 (gB σ 33)) := (o36 _ (by omega)).trans hR33
      have hR34 : h34 (m + 15) = some (cI D 12 (gB σ 34)) := (o36 _ (by omega)).trans hR34
      have hO : ∀ q, (q < m ∨ m + 16 ≤ q) → h34 q = h q := fun q hq => (o36 q (by omega)).trans (hO q hq)
      refine g_iinc C (v := 3) 0 ([(2, .int (3)), (1, .int (2)), (0, .ref (m))]) dX12_station_56 rfl (by decide) (by decide) rfl rfl ?_
      refine g_goto C dX12_station_59 (tgt := 32) (by decide) ?_
      refine g_iload_n C 0 dX12_station_32 rfl rfl rfl ?_
      refine g_iconst C (v := 3) dX12_station_33 (by decide) rfl ?_
      refine g_icmp_ge C dX12_station_34 (tgt := 62) (by decide) (pc' := 37) rfl (fun _ => ?_) (fun c34 => absurd (by decide) c34)
      refine g_iinc C (v := 3) 1 ([(1, .int (3)), (2, .int (3)), (0, .ref (m))]) dX12_station_62 rfl (by decide) (by decide) rfl rfl ?_
      refine g_goto C dX12_station_65 (tgt := 25) (by decide) ?_
      refine g_iload_n C 0 dX12_station_25 rfl rfl rfl ?_
      refine g_iconst C (v := 3) dX12_station_26 (by decide) rfl ?_
      refine g_icmp_ge C dX12_station_27 (tgt := 68) (by decide) (pc' := 30) rfl (fun _ => ?_) (fun c27 => absurd (by decide) c27)
      refine g_aload_n C 2 dX12_station_68 rfl rfl rfl ?_
      refine g_aload_n C 2 dX12_station_69 rfl rfl rfl ?_
      refine g_bipush C (v := 12) dX12_station_70 (by decide) rfl ?_
      refine g_callVi C (As := [.int (12)]) (q := (RX12, TX12, 36)) (kF_X12_figure l D b z hMo hR17 (k := 12) (by decide)) hw_12_64 (hMo) rfl (by decide) rfl rfl (Nat.le_of_ble_eq_true rfl) ⟨Nat.zero_le _, Nat.zero_le _⟩ dX12_station_72 (pc' := 75) rfl ?_
      rintro r37 h9 ⟨er, e9⟩
      subst h9; subst er
      refine g_topi (y := nI (dgt (gB σ 17 12))) ((mg12 (hg14 12 (by decide))).1) ?_
      refine pf_12_76 C (hMo) (v := .int (nI (dgt (gB σ 17 12)))) rfl rfl (Nat.le_of_ble_eq_true rfl) dX12_station_75 (pc' := 78) rfl (fun h38 e39 o40 => ?_)
      have hMo : h38 (m) = some (.inr (12, [.int (nI (gN σ 0)), .int (nI (gN σ 1)), .ref (m + 1), .int (nI (dgt (gB σ 17 12))), .int (nI (gN σ 4)), .int (gI σ 5), .int (nI (gN σ 6)), .ref (m + 2), .int (nI (gN σ 8)), .ref (m + 3), .ref (m + 4), .ref (m + 5), .ref (m + 6), .int (nI (gN σ 13)), .ref (m + 7), .ref (m + 8), .int (nI (gN σ 16)), .ref (m + 9), .long (s18), .int (s19), .int (s20), .ref (m + 10), .ref (m + 11), .int (s23), .int (s24), .int (nI (gN σ 25)), .int (nI (gN σ 26)), .int (gI σ 27), .int (nI (gN σ 28)), .int (nI (gN σ 29)), .int (nI (gN σ 30)), .ref (m + 12), .ref (m + 13), .ref (m + 14), .ref (m + 15), .long (s35)])) := e39
      have hR2 : h38 (m + 1) = some (cI D 9 (upd (upd (upd (upd (upd (upd (upd (upd (upd (tnS σ) (0) (nI (dgt (gB σ 17 0)))) (1) (nI (dgt (gB σ 17 1)))) (2) (nI (dgt (gB σ 17 2)))) (3) (nI (dgt (gB σ 17 4)))) (4) (nI (dgt (gB σ 17 5)))) (5) (nI (dgt (gB σ 17 6)))) (6) (nI (dgt (gB σ 17 8)))) (7) (nI (dgt (gB σ 17 9)))) (8) (nI (dgt (gB σ 17 10))))) := (o40 _ (by omega)).trans hR2
      have hR7 : h38 (m + 2) = some (cI D 5 (gB σ 7)) := (o40 _ (by omega)).trans hR7
      have hR9 : h38 (m + 3) = some (cI D 4 (kdS σ)) := (o40 _ (by omega)).trans hR9
      have hR10 : h38 (m + 4) = some (cI D 4 (gB σ 10)) := (o40 _ (by omega)).trans hR10
      have hR11 : h38 (m + 5) = some (cI D 4 (gB σ 11)) := (o40 _ (by omega)).trans hR11
      have hR12 : h38 (m + 6) = some (cI D 4 (gB σ 12)) := (o40 _ (by omega)).trans hR12
      have hR14 : h38 (m + 7) = some (cI D 12 (gB σ 14)) := (o40 _ (by omega)).trans hR14
      have hR15 : h38 (m + 8) = some (cI D 12 (gB σ 15)) := (o40 _ (by omega)).trans hR15
      have hR17 : h38 (m + 9) = some (cB D 16 (gB σ 17)) := (o40 _ (by omega)).trans hR17
      have hR21 : h38 (m + 10) = some (cI D 5 (f21)) := (o40 _ (by omega)).trans hR21
      have hR22 : h38 (m + 11) = some (cI D 5 (f22)) := (o40 _ (by omega)).trans hR22
      have hR31 : h38 (m + 12) = some (cI D 5 (gB σ 31)) := (o40 _ (by omega)).trans hR31
      have hR32 : h38 (m + 13) = some (cI D 4 (gB σ 32)) := (o40 _ (by omega)).trans hR32
      have hR33 : h38 (m + 14) = some (cI D 12 (gB σ 33)) := (o40 _ (by omega)).trans hR33
      have hR34 : h38 (m + 15) = some (cI D 12 (gB σ 34)) := (o40 _ (by omega)).trans hR34
      have hO : ∀ q, (q < m ∨ m + 16 ≤ q) → h38 q = h q := fun q hq => (o40 q (by omega)).trans (hO q hq)
      refine g_aload_n C 2 dX12_station_78 rfl rfl rfl ?_
      refine g_aload_n C 2 dX12_station_79 rfl rfl rfl ?_
      refine g_bipush C (v := 13) dX12_station_80 (by decide) rfl ?_
      refine g_callVi C (As := [.int (13)]) (q := (RX12, TX12, 36)) (kF_X12_figure l D b z hMo hR17 (k := 13) (by decide)) hw_12_64 (hMo) rfl (by decide) rfl rfl (Nat.le_of_ble_eq_true rfl) ⟨Nat.zero_le _, Nat.zero_le _⟩ dX12_station_82 (pc' := 85) rfl ?_
      rintro r41 h9 ⟨er, e9⟩
      subst h9; subst er
      refine g_topi (y := nI (dgt (gB σ 17 13))) ((mg13 (hg14 13 (by decide))).1) ?_
      refine pf_12_79 C (hMo) (v := .int (nI (dgt (gB σ 17 13)))) rfl rfl (Nat.le_of_ble_eq_true rfl) dX12_station_85 (pc' := 88) rfl (fun h42 e43 o44 => ?_)
      have hMo : h42 (m) = some (.inr (12, [.int (nI (gN σ 0)), .int (nI (gN σ 1)), .ref (m + 1), .int (nI (dgt (gB σ 17 12))), .int (nI (dgt (gB σ 17 13))), .int (gI σ 5), .int (nI (gN σ 6)), .ref (m + 2), .int (nI (gN σ 8)), .ref (m + 3), .ref (m + 4), .ref (m + 5), .ref (m + 6), .int (nI (gN σ 13)), .ref (m + 7), .ref (m + 8), .int (nI (gN σ 16)), .ref (m + 9), .long (s18), .int (s19), .int (s20), .ref (m + 10), .ref (m + 11), .int (s23), .int (s24), .int (nI (gN σ 25)), .int (nI (gN σ 26)), .int (gI σ 27), .int (nI (gN σ 28)), .int (nI (gN σ 29)), .int (nI (gN σ 30)), .ref (m + 12), .ref (m + 13), .ref (m + 14), .ref (m + 15), .long (s35)])) := e43
      have hR2 : h42 (m + 1) = some (cI D 9 (upd (upd (upd (upd (upd (upd (upd (upd (upd (tnS σ) (0) (nI (dgt (gB σ 17 0)))) (1) (nI (dgt (gB σ 17 1)))) (2) (nI (dgt (gB σ 17 2)))) (3) (nI (dgt (gB σ 17 4)))) (4) (nI (dgt (gB σ 17 5)))) (5) (nI (dgt (gB σ 17 6)))) (6) (nI (dgt (gB σ 17 8)))) (7) (nI (dgt (gB σ 17 9)))) (8) (nI (dgt (gB σ 17 10))))) := (o44 _ (by omega)).trans hR2
      have hR7 : h42 (m + 2) = some (cI D 5 (gB σ 7)) := (o44 _ (by omega)).trans hR7
      have hR9 : h42 (m + 3) = some (cI D 4 (kdS σ)) := (o44 _ (by omega)).trans hR9
      have hR10 : h42 (m + 4) = some (cI D 4 (gB σ 10)) := (o44 _ (by omega)).trans hR10
      have hR11 : h42 (m + 5) = some (cI D 4 (gB σ 11)) := (o44 _ (by omega)).trans hR11
      have hR12 : h42 (m + 6) = some (cI D 4 (gB σ 12)) := (o44 _ (by omega)).trans hR12
      have hR14 : h42 (m + 7) = some (cI D 12 (gB σ 14)) := (o44 _ (by omega)).trans hR14
      have hR15 : h42 (m + 8) = some (cI D 12 (gB σ 15)) := (o44 _ (by omega)).trans hR15
      have hR17 : h42 (m + 9) = some (cB D 16 (gB σ 17)) := (o44 _ (by omega)).trans hR17
      have hR21 : h42 (m + 10) = some (cI D 5 (f21)) := (o44 _ (by omega)).trans hR21
      have hR22 : h42 (m + 11) = some (cI D 5 (f22)) := (o44 _ (by omega)).trans hR22
      have hR31 : h42 (m + 12) = some (cI D 5 (gB σ 31)) := (o44 _ (by omega)).trans hR31
      have hR32 : h42 (m + 13) = some (cI D 4 (gB σ 32)) := (o44 _ (by omega)).trans hR32
      have hR33 : h42 (m + 14) = some (cI D 12 (gB σ 33)) := (o44 _ (by omega)).trans hR33
      have hR34 : h42 (m + 15) = some (cI D 12 (gB σ 34)) := (o44 _ (by omega)).trans hR34
      have hO : ∀ q, (q < m ∨ m + 16 ≤ q) → h42 q = h q := fun q hq => (o44 q (by omega)).trans (hO q hq)
      refine g_aload_n C 2 dX12_station_88 rfl rfl rfl ?_
      refine g_iconst C (v := 1) dX12_station_89 (by decide) rfl ?_
      refine pf_12_82 C (hMo) (v := .int (1)) rfl rfl (Nat.le_of_ble_eq_true rfl) dX12_station_90 (pc' := 93) rfl (fun h45 e46 o47 => ?_)
      have hMo : h45 (m) = some (.inr (12, [.int (1), .int (nI (gN σ 1)), .ref (m + 1), .int (nI (dgt (gB σ 17 12))), .int (nI (dgt (gB σ 17 13))), .int (gI σ 5), .int (nI (gN σ 6)), .ref (m + 2), .int (nI (gN σ 8)), .ref (m + 3), .ref (m + 4), .ref (m + 5), .ref (m + 6), .int (nI (gN σ 13)), .ref (m + 7), .ref (m + 8), .int (nI (gN σ 16)), .ref (m + 9), .long (s18), .int (s19), .int (s20), .ref (m + 10), .ref (m + 11), .int (s23), .int (s24), .int (nI (gN σ 25)), .int (nI (gN σ 26)), .int (gI σ 27), .int (nI (gN σ 28)), .int (nI (gN σ 29)), .int (nI (gN σ 30)), .ref (m + 12), .ref (m + 13), .ref (m + 14), .ref (m + 15), .long (s35)])) := e46
      have hR2 : h45 (m + 1) = some (cI D 9 (upd (upd (upd (upd (upd (upd (upd (upd (upd (tnS σ) (0) (nI (dgt (gB σ 17 0)))) (1) (nI (dgt (gB σ 17 1)))) (2) (nI (dgt (gB σ 17 2)))) (3) (nI (dgt (gB σ 17 4)))) (4) (nI (dgt (gB σ 17 5)))) (5) (nI (dgt (gB σ 17 6)))) (6) (nI (dgt (gB σ 17 8)))) (7) (nI (dgt (gB σ 17 9)))) (8) (nI (dgt (gB σ 17 10))))) := (o47 _ (by omega)).trans hR2
      have hR7 : h45 (m + 2) = some (cI D 5 (gB σ 7)) := (o47 _ (by omega)).trans hR7
      have hR9 : h45 (m + 3) = some (cI D 4 (kdS σ)) := (o47 _ (by omega)).trans hR9
      have hR10 : h45 (m + 4) = some (cI D 4 (gB σ 10)) := (o47 _ (by omega)).trans hR10
      have hR11 : h45 (m + 5) = some (cI D 4 (gB σ 11)) := (o47 _ (by omega)).trans hR11
      have hR12 : h45 (m + 6) = some (cI D 4 (gB σ 12)) := (o47 _ (by omega)).trans hR12
      have hR14 : h45 (m + 7) = some (cI D 12 (gB σ 14)) := (o47 _ (by omega)).trans hR14
      have hR15 : h45 (m + 8) = some (cI D 12 (gB σ 15)) := (o47 _ (by omega)).trans hR15
      have hR17 : h45 (m + 9) = some (cB D 16 (gB σ 17)) := (o47 _ (by omega)).trans hR17
      have hR21 : h45 (m + 10) = some (cI D 5 (f21)) := (o47 _ (by omega)).trans hR21
      have hR22 : h45 (m + 11) = some (cI D 5 (f22)) := (o47 _ (by omega)).trans hR22
      have hR31 : h45 (m + 12) = some (cI D 5 (gB σ 31)) := (o47 _ (by omega)).trans hR31
      have hR32 : h45 (m + 13) = some (cI D 4 (gB σ 32)) := (o47 _ (by omega)).trans hR32
      have hR33 : h45 (m + 14) = some (cI D 12 (gB σ 33)) := (o47 _ (by omega)).trans hR33
      have hR34 : h45 (m + 15) = some (cI D 12 (gB σ 34)) := (o47 _ (by omega)).trans hR34
      have hO : ∀ q, (q < m ∨ m + 16 ≤ q) → h45 q = h q := fun q hq => (o47 q (by omega)).trans (hO q hq)
      refine g_aload_n C 2 dX12_station_93 rfl rfl rfl ?_
      refine g_dup C rfl dX12_station_94 rfl ?_
      refine gf_12_86 C (hMo) (v := .int (nI (gN σ 1))) rfl dX12_station_95 rfl ?_
      refine g_iconst C (v := 1) dX12_station_98 (by decide) rfl ?_
      refine g_iadd C dX12_station_99 rfl ?_
      refine g_topi (y := nI (gN σ 1 + 1)) (nI_add _ _) ?_
      refine pf_12_86 C (hMo) (v := .int (nI ((gN σ 1 + 1)))) rfl rfl (Nat.le_of_ble_eq_true rfl) dX12_station_100 (pc' := 103) rfl (fun h48 e49 o50 => ?_)
      have hMo : h48 (m) = some (.inr (12, [.int (1), .int (nI ((gN σ 1 + 1))), .ref (m + 1), .int (nI (dgt (gB σ 17 12))), .int (nI (dgt (gB σ 17 13))), .int (gI σ 5), .int (nI (gN σ 6)), .ref (m + 2), .int (nI (gN σ 8)), .ref (m + 3), .ref (m + 4), .ref (m + 5), .ref (m + 6), .int (nI (gN σ 13)), .ref (m + 7), .ref (m + 8), .int (nI (gN σ 16)), .ref (m + 9), .long (s18), .int (s19), .int (s20), .ref (m + 10), .ref (m + 11), .int (s23), .int (s24), .int (nI (gN σ 25)), .int (nI (gN σ 26)), .int (gI σ 27), .int (nI (gN σ 28)), .int (nI (gN σ 29)), .int (nI (gN σ 30)), .ref (m + 12), .ref (m + 13), .ref (m + 14), .ref (m + 15), .long (s35)])) := e49
      have hR2 : h48 (m + 1) = some (cI D 9 (upd (upd (upd (upd (upd (upd (upd (upd (upd (tnS σ) (0) (nI (dgt (gB σ 17 0)))) (1) (nI (dgt (gB σ 17 1)))) (2) (nI (dgt (gB σ 17 2)))) (3) (nI (dgt (gB σ 17 4)))) (4) (nI (dgt (gB σ 17 5)))) (5) (nI (dgt (gB σ 17 6)))) (6) (nI (dgt (gB σ 17 8)))) (7) (nI (dgt (gB σ 17 9)))) (8) (nI (dgt (gB σ 17 10))))) := (o50 _ (by omega)).trans hR2
      have hR7 : h48 (m + 2) = some (cI D 5 (gB σ 7)) := (o50 _ (by omega)).trans hR7
      have hR9 : h48 (m + 3) = some (cI D 4 (kdS σ)) := (o50 _ (by omega)).trans hR9
      have hR10 : h48 (m + 4) = some (cI D 4 (gB σ 10)) := (o50 _ (by omega)).trans hR10
      have hR11 : h48 (m + 5) = some (cI D 4 (gB σ 11)) := (o50 _ (by omega)).trans hR11
      have hR12 : h48 (m + 6) = some (cI D 4 (gB σ 12)) := (o50 _ (by omega)).trans hR12
      have hR14 : h48 (m + 7) = some (cI D 12 (gB σ 14)) := (o50 _ (by omega)).trans hR14
      have hR15 : h48 (m + 8) = some (cI D 12 (gB σ 15)) := (o50 _ (by omega)).trans hR15
      have hR17 : h48 (m + 9) = some (cB D 16 (gB σ 17)) := (o50 _ (by omega)).trans hR17
      have hR21 : h48 (m + 10) = some (cI D 5 (f21)) := (o50 _ (by omega)).trans hR21
      have hR22 : h48 (m + 11) = some (cI D 5 (f22)) := (o50 _ (by omega)).trans hR22
      have hR31 : h48 (m + 12) = some (cI D 5 (gB σ 31)) := (o50 _ (by omega)).trans hR31
      have hR32 : h48 (m + 13) = some (cI D 4 (gB σ 32)) := (o50 _ (by omega)).trans hR32
      have hR33 : h48 (m + 14) = some (cI D 12 (gB σ 33)) := (o50 _ (by omega)).trans hR33
      have hR34 : h48 (m + 15) = some (cI D 12 (gB σ 34)) := (o50 _ (by omega)).trans hR34
      have hO : ∀ q, (q < m ∨ m + 16 ≤ q) → h48 q = h q := fun q hq => (o50 q (by omega)).trans (hO q hq)
      refine g_aload_n C 2 dX12_station_103 rfl rfl rfl ?_
      refine g_iconst C (v := 0) dX12_station_104 (by decide) rfl ?_
      refine pf_12_89 C (hMo) (v := .int (0)) rfl rfl (Nat.le_of_ble_eq_true rfl) dX12_station_105 (pc' := 108) rfl (fun h51 e52 o53 => ?_)
      have hMo : h51 (m) = some (.inr (12, [.int (1), .int (nI ((gN σ 1 + 1))), .ref (m + 1), .int (nI (dgt (gB σ 17 12))), .int (nI (dgt (gB σ 17 13))), .int (0), .int (nI (gN σ 6)), .ref (m + 2), .int (nI (gN σ 8)), .ref (m + 3), .ref (m + 4), .ref (m + 5), .ref (m + 6), .int (nI (gN σ 13)), .ref (m + 7), .ref (m + 8), .int (nI (gN σ 16)), .ref (m + 9), .long (s18), .int (s19), .int (s20), .ref (m + 10), .ref (m + 11), .int (s23), .int (s24), .int (nI (gN σ 25)), .int (nI (gN σ 26)), .int (gI σ 27), .int (nI (gN σ 28)), .int (nI (gN σ 29)), .int (nI (gN σ 30)), .ref (m + 12), .ref (m + 13), .ref (m + 14), .ref (m + 15), .long (s35)])) := e52
      have hR2 : h51 (m + 1) = some (cI D 9 (upd (upd (upd (upd (upd (upd (upd (upd (upd (tnS σ) (0) (nI (dgt (gB σ 17 0)))) (1) (nI (dgt (gB σ 17 1)))) (2) (nI (dgt (gB σ 17 2)))) (3) (nI (dgt (gB σ 17 4)))) (4) (nI (dgt (gB σ 17 5)))) (5) (nI (dgt (gB σ 17 6)))) (6) (nI (dgt (gB σ 17 8)))) (7) (nI (dgt (gB σ 17 9)))) (8) (nI (dgt (gB σ 17 10))))) := (o53 _ (by omega)).trans hR2
      have hR7 : h51 (m + 2) = some (cI D 5 (gB σ 7)) := (o53 _ (by omega)).trans hR7
      have hR9 : h51 (m + 3) = some (cI D 4 (kdS σ)) := (o53 _ (by omega)).trans hR9
      have hR10 : h51 (m + 4) = some (cI D 4 (gB σ 10)) := (o53 _ (by omega)).trans hR10
      have hR11 : h51 (m + 5) = some (cI D 4 (gB σ 11)) := (o53 _ (by omega)).trans hR11
      have hR12 : h51 (m + 6) = some (cI D 4 (gB σ 12)) := (o53 _ (by omega)).trans hR12
      have hR14 : h51 (m + 7) = some (cI D 12 (gB σ 14)) := (o53 _ (by omega)).trans hR14
      have hR15 : h51 (m + 8) = some (cI D 12 (gB σ 15)) := (o53 _ (by omega)).trans hR15
      have hR17 : h51 (m + 9) = some (cB D 16 (gB σ 17)) := (o53 _ (by omega)).trans hR17
      have hR21 : h51 (m + 10) = some (cI D 5 (f21)) := (o53 _ (by omega)).trans hR21
      have hR22 : h51 (m + 11) = some (cI D 5 (f22)) := (o53 _ (by omega)).trans hR22
      have hR31 : h51 (m + 12) = some (cI D 5 (gB σ 31)) := (o53 _ (by omega)).trans hR31
      have hR32 : h51 (m + 13) = some (cI D 4 (gB σ 32)) := (o53 _ (by omega)).trans hR32
      have hR33 : h51 (m + 14) = some (cI D 12 (gB σ 33)) := (o53 _ (by omega)).trans hR33
      have hR34 : h51 (m + 15) = some (cI D 12 (gB σ 34)) := (o53 _ (by omega)).trans hR34
      have hO : ∀ q, (q < m ∨ m + 16 ≤ q) → h51 q = h q := fun q hq => (o53 q (by omega)).trans (hO q hq)
      refine g_aload_n C 2 dX12_station_108 rfl rfl rfl ?_
      refine g_iconst C (v := 0) dX12_station_109 (by decide) rfl ?_
      refine pf_12_92 C (hMo) (v := .int (0)) rfl rfl (Nat.le_of_ble_eq_true rfl) dX12_station_110 (pc' := 113) rfl (fun h54 e55 o56 => ?_)
      have hMo : h54 (m) = some (.inr (12, [.int (1), .int (nI ((gN σ 1 + 1))), .ref (m + 1), .int (nI (dgt (gB σ 17 12))), .int (nI (dgt (gB σ 17 13))), .int (0), .int (0), .ref (m + 2), .int (nI (gN σ 8)), .ref (m + 3), .ref (m + 4), .ref (m + 5), .ref (m + 6), .int (nI (gN σ 13)), .ref (m + 7), .ref (m + 8), .int (nI (gN σ 16)), .ref (m + 9), .long (s18), .int (s19), .int (s20), .ref (m + 10), .ref (m + 11), .int (s23), .int (s24), .int (nI (gN σ 25)), .int (nI (gN σ 26)), .int (gI σ 27), .int (nI (gN σ 28)), .int (nI (gN σ 29)), .int (nI (gN σ 30)), .ref (m + 12), .ref (m + 13), .ref (m + 14), .ref (m + 15), .long (s35)])) := e55
      have hR2 : h54 (m + 1) = some (cI D 9 (upd (upd (upd (upd (upd (upd (upd (upd (upd (tnS σ) (0) (nI (dgt (gB σ 17 0)))) (1) (nI (dgt (gB σ 17 1)))) (2) (nI (dgt (gB σ 17 2)))) (3) (nI (dgt (gB σ 17 4)))) (4) (nI (dgt (gB σ 17 5)))) (5) (nI (dgt (gB σ 17 6)))) (6) (nI (dgt (gB σ 17 8)))) (7) (nI (dgt (gB σ 17 9)))) (8) (nI (dgt (gB σ 17 10))))) := (o56 _ (by omega)).trans hR2
      have hR7 : h54 (m + 2) = some (cI D 5 (gB σ 7)) := (o56 _ (by omega)).trans hR7
      have hR9 : h54 (m + 3) = some (cI D 4 (kdS σ)) := (o56 _ (by omega)).trans hR9
      have hR10 : h54 (m + 4) = some (cI D 4 (gB σ 10)) := (o56 _ (by omega)).trans hR10
      have hR11 : h54 (m + 5) = some (cI D 4 (gB σ 11)) := (o56 _ (by omega)).trans hR11
      have hR12 : h54 (m + 6) = some (cI D 4 (gB σ 12)) := (o56 _ (by omega)).trans hR12
      have hR14 : h54 (m + 7) = some (cI D 12 (gB σ 14)) := (o56 _ (by omega)).trans hR14
      have hR15 : h54 (m + 8) = some (cI D 12 (gB σ 15)) := (o56 _ (by omega)).trans hR15
      have hR17 : h54 (m + 9) = some (cB D 16 (gB σ 17)) := (o56 _ (by omega)).trans hR17
      have hR21 : h54 (m + 10) = some (cI D 5 (f21)) := (o56 _ (by omega)).trans hR21
      have hR22 : h54 (m + 11) = some (cI D 5 (f22)) := (o56 _ (by omega)).trans hR22
      have hR31 : h54 (m + 12) = some (cI D 5 (gB σ 31)) := (o56 _ (by omega)).trans hR31
      have hR32 : h54 (m + 13) = some (cI D 4 (gB σ 32)) := (o56 _ (by omega)).trans hR32
      have hR33 : h54 (m + 14) = some (cI D 12 (gB σ 33)) := (o56 _ (by omega)).trans hR33
      have hR34 : h54 (m + 15) = some (cI D 12 (gB σ 34)) := (o56 _ (by omega)).trans hR34
      have hO : ∀ q, (q < m ∨ m + 16 ≤ q) → h54 q = h q := fun q hq => (o56 q (by omega)).trans (hO q hq)
      refine g_iconst C (v := 0) dX12_station_113 (by decide) rfl ?_
      refine g_istore_n C ([(1, .int (0)), (2, .int (3)), (0, .ref (m))]) dX12_station_114 rfl (by decide) rfl rfl ?_
      refine g_iload_n C 0 dX12_station_115 rfl rfl rfl ?_
      refine g_iconst C (v := 4) dX12_station_116 (by decide) rfl ?_
      refine g_icmp_gt C dX12_station_117 (tgt := 133) (by decide) (pc' := 120) rfl (fun c117 => absurd c117 (by decide)) (fun _ => ?_)
      refine g_aload_n C 2 dX12_station_120 rfl rfl rfl ?_
      refine gf_12_13 C (hMo) (v := .ref (m + 2)) rfl dX12_station_121 rfl ?_
      refine g_iload_n C 0 dX12_station_124 rfl rfl rfl ?_
      refine g_iconst C (v := -1) dX12_station_125 (by decide) rfl ?_
      refine g_iast' C (hR7) (j := 0) rfl (by omega) (by decide) dX12_station_126 (pc' := 127) rfl (fun h57 e58 o59 => ?_)
      have hR7 : h57 (m + 2) = some (cI D 5 (upd (gB σ 7) (0) ((-1)))) := e58
      have hMo : h57 (m) = some (.inr (12, [.int (1), .int (nI ((gN σ 1 + 1))), .ref (m + 1), .int (nI (dgt (gB σ 17 12))), .int (nI (dgt (gB σ 17 13))), .int (0), .int (0), .ref (m + 2), .int (nI (gN σ 8)), .ref (m + 3), .ref (m + 4), .ref (m + 5), .ref (m + 6), .int (nI (gN σ 13)), .ref (m + 7), .ref (m + 8), .int (nI (gN σ 16)), .ref (m + 9), .long (s18), .int (s19), .int (s20), .ref (m + 10), .ref (m + 11), .int (s23), .int (s24), .int (nI (gN σ 25)), .int (nI (gN σ 26)), .int (gI σ 27), .int (nI (gN σ 28)), .int (nI (gN σ 29)), .int (nI (gN σ 30)), .ref (m + 12), .ref (m + 13), .ref (m + 14), .ref (m + 15), .long (s35)])) := (o59 _ (by omega)).trans hMo
      have hR2 : h57 (m + 1) = some (cI D 9 (upd (upd (upd (upd (upd (upd (upd (upd (upd (tnS σ) (0) (nI (dgt (gB σ 17 0)))) (1) (nI (dgt (gB σ 17 1)))) (2) (nI (dgt (gB σ 17 2)))) (3) (nI (dgt (gB σ 17 4)))) (4) (nI (dgt (gB σ 17 5)))) (5) (nI (dgt (gB σ 17 6)))) (6) (nI (dgt (gB σ 17 8)))) (7) (nI (dgt (gB σ 17 9)))) (8) (nI (dgt (gB σ 17 10))))) := (o59 _ (by omega)).trans hR2
      have hR9 : h57 (m + 3) = some (cI D 4 (kdS σ)) := (o59 _ (by omega)).trans hR9
      have hR10 : h57 (m + 4) = some (cI D 4 (gB σ 10)) := (o59 _ (by omega)).trans hR10
      have hR11 : h57 (m + 5) = some (cI D 4 (gB σ 11)) := (o59 _ (by omega)).trans hR11
      have hR12 : h57 (m + 6) = some (cI D 4 (gB σ 12)) := (o59 _ (by omega)).trans hR12
      have hR14 : h57 (m + 7) = some (cI D 12 (gB σ 14)) := (o59 _ (by omega)).trans hR14
      have hR15 : h57 (m + 8) = some (cI D 12 (gB σ 15)) := (o59 _ (by omega)).trans hR15
      have hR17 : h57 (m + 9) = some (cB D 16 (gB σ 17)) := (o59 _ (by omega)).trans hR17
      have hR21 : h57 (m + 10) = some (cI D 5 (f21)) := (o59 _ (by omega)).trans hR21
      have hR22 : h57 (m + 11) = some (cI D 5 (f22)) := (o59 _ (by omega)).trans hR22
      have hR31 : h57 (m + 12) = some (cI D 5 (gB σ 31)) := (o59 _ (by omega)).trans hR31
      have hR32 : h57 (m + 13) = some (cI D 4 (gB σ 32)) := (o59 _ (by omega)).trans hR32
      have hR33 : h57 (m + 14) = some (cI D 12 (gB σ 33)) := (o59 _ (by omega)).trans hR33
      have hR34 : h57 (m + 15) = some (cI D 12 (gB σ 34)) := (o59 _ (by omega)).trans hR34
      have hO : ∀ q, (q < m ∨ m + 16 ≤ q) → h57 q = h q := fun q hq => (o59 q (by omega)).trans (hO q hq)
      refine g_iinc C (v := 1) 0 ([(1, .int (1)), (2, .int (3)), (0, .ref (m))]) dX12_station_127 rfl (by decide) (by decide) rfl rfl ?_
      refine g_goto C dX12_station_130 (tgt := 115) (by decide) ?_
      refine g_iload_n C 0 dX12_station_115 rfl rfl rfl ?_
      refine g_iconst C (v := 4) dX12_station_116 (by decide) rfl ?_
      refine g_icmp_gt C dX12_station_117 (tgt := 133) (by decide) (pc' := 120) rfl (fun c117 => absurd c117 (by decide)) (fun _ => ?_)
      refine g_aload_n C 2 dX12_station_120 rfl rfl rfl ?_
      refine gf_12_13 C (hMo) (v := .ref (m + 2)) rfl dX12_station_121 rfl ?_
      refine g_iload_n C 0 dX12_station_124 rfl rfl rfl ?_
      refine g_iconst C (v := -1) dX12_station_125 (by decide) rfl ?_
      refine g_iast' C (hR7) (j := 1) rfl (by omega) (by decide) dX12_station_126 (pc' := 127) rfl (fun h60 e61 o62 => ?_)
      have hR7 : h60 (m + 2) = some (cI D 5 (upd (upd (gB σ 7) (0) ((-1))) (1) ((-1)))) := e61
      have hMo : h60 (m) = some (.inr (12, [.int (1), .int (nI ((gN σ 1 + 1))), .ref (m + 1), .int (nI (dgt (gB σ 17 12))), .int (nI (dgt (gB σ 17 13))), .int (0), .int (0), .ref (m + 2), .int (nI (gN σ 8)), .ref (m + 3), .ref (m + 4), .ref (m + 5), .ref (m + 6), .int (nI (gN σ 13)), .ref (m + 7), .ref (m + 8), .int (nI (gN σ 16)), .ref (m + 9), .long (s18), .int (s19), .int (s20), .ref (m + 10), .ref (m + 11), .int (s23), .int (s24), .int (nI (gN σ 25)), .int (nI (gN σ 26)), .int (gI σ 27), .int (nI (gN σ 28)), .int (nI (gN σ 29)), .int (nI (gN σ 30)), .ref (m + 12), .ref (m + 13), .ref (m + 14), .ref (m + 15), .long (s35)])) := (o62 _ (by omega)).trans hMo
      have hR2 : h60 (m + 1) = some (cI D 9 (upd (upd (upd (upd (upd (upd (upd (upd (upd (tnS σ) (0) (nI (dgt (gB σ 17 0)))) (1) (nI (dgt (gB σ 17 1)))) (2) (nI (dgt (gB σ 17 2)))) (3) (nI (dgt (gB σ 17 4)))) (4) (nI (dgt (gB σ 17 5)))) (5) (nI (dgt (gB σ 17 6)))) (6) (nI (dgt (gB σ 17 8)))) (7) (nI (dgt (gB σ 17 9)))) (8) (nI (dgt (gB σ 17 10))))) := (o62 _ (by omega)).trans hR2
      have hR9 : h60 (m + 3) = some (cI D 4 (kdS σ)) := (o62 _ (by omega)).trans hR9
      have hR10 : h60 (m + 4) = some (cI D 4 (gB σ 10)) := (o62 _ (by omega)).trans hR10
      have hR11 : h60 (m + 5) = some (cI D 4 (gB σ 11)) := (o62 _ (by omega)).trans hR11
      have hR12 : h60 (m + 6) = some (cI D 4 (gB σ 12)) := (o62 _ (by omega)).trans hR12
      have hR14 : h60 (m + 7) = some (cI D 12 (gB σ 14)) := (o62 _ (by omega)).trans hR14
      have hR15 : h60 (m + 8) = some (cI D 12 (gB σ 15)) := (o62 _ (by omega)).trans hR15
      have hR17 : h60 (m + 9) = some (cB D 16 (gB σ 17)) := (o62 _ (by omega)).trans hR17
      have hR21 : h60 (m + 10) = some (cI D 5 (f21)) := (o62 _ (by omega)).trans hR21
      have hR22 : h60 (m + 11) = some (cI D 5 (f22)) := (o62 _ (by omega)).trans hR22
      have hR31 : h60 (m + 12) = some (cI D 5 (gB σ 31)) := (o62 _ (by omega)).trans hR31
      have hR32 : h60 (m + 13) = some (cI D 4 (gB σ 32)) := (o62 _ (by omega)).trans hR32
      have hR33 : h60 (m + 14) = some (cI D 12 (gB σ 33)) := (o62 _ (by omega)).trans hR33
      have hR34 : h60 (m + 15) = some (cI D 12 (gB σ 34)) := (o62 _ (by omega)).trans hR34
      have hO : ∀ q, (q < m ∨ m + 16 ≤ q) → h60 q = h q := fun q hq => (o62 q (by omega)).trans (hO q hq)
      refine g_iinc C (v := 2) 0 ([(1, .int (2)), (2, .int (3)), (0, .ref (m))]) dX12_station_127 rfl (by decide) (by decide) rfl rfl ?_
      refine g_goto C dX12_station_130 (tgt := 115) (by decide) ?_
      refine g_iload_n C 0 dX12_station_115 rfl rfl rfl ?_
      refine g_iconst C (v := 4) dX12_station_116 (by decide) rfl ?_
      refine g_icmp_gt C dX12_station_117 (tgt := 133) (by decide) (pc' := 120) rfl (fun c117 => absurd c117 (by decide)) (fun _ => ?_)
      refine g_aload_n C 2 dX12_station_120 rfl rfl rfl ?_
      refine gf_12_13 C (hMo) (v := .ref (m + 2)) rfl dX12_station_121 rfl ?_
      refine g_iload_n C 0 dX12_station_124 rfl rfl rfl ?_
      refine g_iconst C (v := -1) dX12_station_125 (by decide) rfl ?_
      refine g_iast' C (hR7) (j := 2) rfl (by omega) (by decide) dX12_station_126 (pc' := 127) rfl (fun h63 e64 o65 => ?_)
      have hR7 : h63 (m + 2) = some (cI D 5 (upd (upd (upd (gB σ 7) (0) ((-1))) (1) ((-1))) (2) ((-1)))) := e64
      have hMo : h63 (m) = some (.inr (12, [.int (1), .int (nI ((gN σ 1 + 1))), .ref (m + 1), .int (nI (dgt (gB σ 17 12))), .int (nI (dgt (gB σ 17 13))), .int (0), .int (0), .ref (m + 2), .int (nI (gN σ 8)), .ref (m + 3), .ref (m + 4), .ref (m + 5), .ref (m + 6), .int (nI (gN σ 13)), .ref (m + 7), .ref (m + 8), .int (nI (gN σ 16)), .ref (m + 9), .long (s18), .int (s19), .int (s20), .ref (m + 10), .ref (m + 11), .int (s23), .int (s24), .int (nI (gN σ 25)), .int (nI (gN σ 26)), .int (gI σ 27), .int (nI (gN σ 28)), .int (nI (gN σ 29)), .int (nI (gN σ 30)), .ref (m + 12), .ref (m + 13), .ref (m + 14), .ref (m + 15), .long (s35)])) := (o65 _ (by omega)).trans hMo
      have hR2 : h63 (m + 1) = some (cI D 9 (upd (upd (upd (upd (upd (upd (upd (upd (upd (tnS σ) (0) (nI (dgt (gB σ 17 0)))) (1) (nI (dgt (gB σ 17 1)))) (2) (nI (dgt (gB σ 17 2)))) (3) (nI (dgt (gB σ 17 4)))) (4) (nI (dgt (gB σ 17 5)))) (5) (nI (dgt (gB σ 17 6)))) (6) (nI (dgt (gB σ 17 8)))) (7) (nI (dgt (gB σ 17 9)))) (8) (nI (dgt (gB σ 17 10))))) := (o65 _ (by omega)).trans hR2
      have hR9 : h63 (m + 3) = some (cI D 4 (kdS σ)) := (o65 _ (by omega)).trans hR9
      have hR10 : h63 (m + 4) = some (cI D 4 (gB σ 10)) := (o65 _ (by omega)).trans hR10
      have hR11 : h63 (m + 5) = some (cI D 4 (gB σ 11)) := (o65 _ (by omega)).trans hR11
      have hR12 : h63 (m + 6) = some (cI D 4 (gB σ 12)) := (o65 _ (by omega)).trans hR12
      have hR14 : h63 (m + 7) = some (cI D 12 (gB σ 14)) := (o65 _ (by omega)).trans hR14
      have hR15 : h63 (m + 8) = some (cI D 12 (gB σ 15)) := (o65 _ (by omega)).trans hR15
      have hR17 : h63 (m + 9) = some (cB D 16 (gB σ 17)) := (o65 _ (by omega)).trans hR17
      have hR21 : h63 (m + 10) = some (cI D 5 (f21)) := (o65 _ (by omega)).trans hR21
      have hR22 : h63 (m + 11) = some (cI D 5 (f22)) := (o65 _ (by omega)).trans hR22
      have hR31 : h63 (m + 12) = some (cI D 5 (gB σ 31)) := (o65 _ (by omega)).trans hR31
      have hR32 : h63 (m + 13) = some (cI D 4 (gB σ 32)) := (o65 _ (by omega)).trans hR32
      have hR33 : h63 (m + 14) = some (cI D 12 (gB σ 33)) := (o65 _ (by omega)).trans hR33
      have hR34 : h63 (m + 15) = some (cI D 12 (gB σ 34)) := (o65 _ (by omega)).trans hR34
      have hO : ∀ q, (q < m ∨ m + 16 ≤ q) → h63 q = h q := fun q hq => (o65 q (by omega)).trans (hO q hq)
      refine g_iinc C (v := 3) 0 ([(1, .int (3)), (2, .int (3)), (0, .ref (m))]) dX12_station_127 rfl (by decide) (by decide) rfl rfl ?_
      refine g_goto C dX12_station_130 (tgt := 115) (by decide) ?_
      refine g_iload_n C 0 dX12_station_115 rfl rfl rfl ?_
      refine g_iconst C (v := 4) dX12_station_116 (by decide) rfl ?_
      refine g_icmp_gt C dX12_station_117 (tgt := 133) (by decide) (pc' := 120) rfl (fun c117 => absurd c117 (by decide)) (fun _ => ?_)
      refine g_aload_n C 2 dX12_station_120 rfl rfl rfl ?_
      refine gf_12_13 C (hMo) (v := .ref (m + 2)) rfl dX12_station_121 rfl ?_
      refine g_iload_n C 0 dX12_station_124 rfl rfl rfl ?_
      refine g_iconst C (v := -1) dX12_station_125 (by decide) rfl ?_
      refine g_iast' C (hR7) (j := 3) rfl (by omega) (by decide) dX12_station_126 (pc' := 127) rfl (fun h66 e67 o68 => ?_)
      have hR7 : h66 (m + 2) = some (cI D 5 (upd (upd (upd (upd (gB σ 7) (0) ((-1))) (1) ((-1))) (2) ((-1))) (3) ((-1)))) := e67
      have hMo : h66 (m) = some (.inr (12, [.int (1), .int (nI ((gN σ 1 + 1))), .ref (m + 1), .int (nI (dgt (gB σ 17 12))), .int (nI (dgt (gB σ 17 13))), .int (0), .int (0), .ref (m + 2), .int (nI (gN σ 8)), .ref (m + 3), .ref (m + 4), .ref (m + 5), .ref (m + 6), .int (nI (gN σ 13)), .ref (m + 7), .ref (m + 8), .int (nI (gN σ 16)), .ref (m + 9), .long (s18), .int (s19), .int (s20), .ref (m + 10), .ref (m + 11), .int (s23), .int (s24), .int (nI (gN σ 25)), .int (nI (gN σ 26)), .int (gI σ 27), .int (nI (gN σ 28)), .int (nI (gN σ 29)), .int (nI (gN σ 30)), .ref (m + 12), .ref (m + 13), .ref (m + 14), .ref (m + 15), .long (s35)])) := (o68 _ (by omega)).trans hMo
      have hR2 : h66 (m + 1) = some (cI D 9 (upd (upd (upd (upd (upd (upd (upd (upd (upd (tnS σ) (0) (nI (dgt (gB σ 17 0)))) (1) (nI (dgt (gB σ 17 1)))) (2) (nI (dgt (gB σ 17 2)))) (3) (nI (dgt (gB σ 17 4)))) (4) (nI (dgt (gB σ 17 5)))) (5) (nI (dgt (gB σ 17 6)))) (6) (nI (dgt (gB σ 17 8)))) (7) (nI (dgt (gB σ 17 9)))) (8) (nI (dgt (gB σ 17 10))))) := (o68 _ (by omega)).trans hR2
      have hR9 : h66 (m + 3) = some (cI D 4 (kdS σ)) := (o68 _ (by omega)).trans hR9
      have hR10 : h66 (m + 4) = some (cI D 4 (gB σ 10)) := (o68 _ (by omega)).trans hR10
      have hR11 : h66 (m + 5) = some (cI D 4 (gB σ 11)) := (o68 _ (by omega)).trans hR11
      have hR12 : h66 (m + 6) = some (cI D 4 (gB σ 12)) := (o68 _ (by omega)).trans hR12
      have hR14 : h66 (m + 7) = some (cI D 12 (gB σ 14)) := (o68 _ (by omega)).trans hR14
      have hR15 : h66 (m + 8) = some (cI D 12 (gB σ 15)) := (o68 _ (by omega)).trans hR15
      have hR17 : h66 (m + 9) = some (cB D 16 (gB σ 17)) := (o68 _ (by omega)).trans hR17
      have hR21 : h66 (m + 10) = some (cI D 5 (f21)) := (o68 _ (by omega)).trans hR21
      have hR22 : h66 (m + 11) = some (cI D 5 (f22)) := (o68 _ (by omega)).trans hR22
      have hR31 : h66 (m + 12) = some (cI D 5 (gB σ 31)) := (o68 _ (by omega)).trans hR31
      have hR32 : h66 (m + 13) = some (cI D 4 (gB σ 32)) := (o68 _ (by omega)).trans hR32
      have hR33 : h66 (m + 14) = some (cI D 12 (gB σ 33)) := (o68 _ (by omega)).trans hR33
      have hR34 : h66 (m + 15) = some (cI D 12 (gB σ 34)) := (o68 _ (by omega)).trans hR34
      have hO : ∀ q, (q < m ∨ m + 16 ≤ q) → h66 q = h q := fun q hq => (o68 q (by omega)).trans (hO q hq)
      refine g_iinc C (v := 4) 0 ([(1, .int (4)), (2, .int (3)), (0, .ref (m))]) dX12_station_127 rfl (by decide) (by decide) rfl rfl ?_
      refine g_goto C dX12_station_130 (tgt := 115) (by decide) ?_
      refine g_iload_n C 0 dX12_station_115 rfl rfl rfl ?_
      refine g_iconst C (v := 4) dX12_station_116 (by decide) rfl ?_
      refine g_icmp_gt C dX12_station_117 (tgt := 133) (by decide) (pc' := 120) rfl (fun c117 => absurd c117 (by decide)) (fun _ => ?_)
      refine g_aload_n C 2 dX12_station_120 rfl rfl rfl ?_
      refine gf_12_13 C (hMo) (v := .ref (m + 2)) rfl dX12_station_121 rfl ?_
      refine g_iload_n C 0 dX12_station_124 rfl rfl rfl ?_
      refine g_iconst C (v := -1) dX12_station_125 (by decide) rfl ?_
      refine g_iast' C (hR7) (j := 4) rfl (by omega) (by decide) dX12_station_126 (pc' := 127) rfl (fun h69 e70 o71 => ?_)
      have hR7 : h69 (m + 2) = some (cI D 5 (upd (upd (upd (upd (upd (gB σ 7) (0) ((-1))) (1) ((-1))) (2) ((-1))) (3) ((-1))) (4) ((-1)))) := e70
      have hMo : h69 (m) = some (.inr (12, [.int (1), .int (nI ((gN σ 1 + 1))), .ref (m + 1), .int (nI (dgt (gB σ 17 12))), .int (nI (dgt (gB σ 17 13))), .int (0), .int (0), .ref (m + 2), .int (nI (gN σ 8)), .ref (m + 3), .ref (m + 4), .ref (m + 5), .ref (m + 6), .int (nI (gN σ 13)), .ref (m + 7), .ref (m + 8), .int (nI (gN σ 16)), .ref (m + 9), .long (s18), .int (s19), .int (s20), .ref (m + 10), .ref (m + 11), .int (s23), .int (s24), .int (nI (gN σ 25)), .int (nI (gN σ 26)), .int (gI σ 27), .int (nI (gN σ 28)), .int (nI (gN σ 29)), .int (nI (gN σ 30)), .ref (m + 12), .ref (m + 13), .ref (m + 14), .ref (m + 15), .long (s35)])) := (o71 _ (by omega)).trans hMo
      have hR2 : h69 (m + 1) = some (cI D 9 (upd (upd (upd (upd (upd (upd (upd (upd (upd (tnS σ) (0) (nI (dgt (gB σ 17 0)))) (1) (nI (dgt (gB σ 17 1)))) (2) (nI (dgt (gB σ 17 2)))) (3) (nI (dgt (gB σ 17 4)))) (4) (nI (dgt (gB σ 17 5)))) (5) (nI (dgt (gB σ 17 6)))) (6) (nI (dgt (gB σ 17 8)))) (7) (nI (dgt (gB σ 17 9)))) (8) (nI (dgt (gB σ 17 10))))) := (o71 _ (by omega)).trans hR2
      have hR9 : h69 (m + 3) = some (cI D 4 (kdS σ)) := (o71 _ (by omega)).trans hR9
      have hR10 : h69 (m + 4) = some (cI D 4 (gB σ 10)) := (o71 _ (by omega)).trans hR10
      have hR11 : h69 (m + 5) = some (cI D 4 (gB σ 11)) := (o71 _ (by omega)).trans hR11
      have hR12 : h69 (m + 6) = some (cI D 4 (gB σ 12)) := (o71 _ (by omega)).trans hR12
      have hR14 : h69 (m + 7) = some (cI D 12 (gB σ 14)) := (o71 _ (by omega)).trans hR14
      have hR15 : h69 (m + 8) = some (cI D 12 (gB σ 15)) := (o71 _ (by omega)).trans hR15
      have hR17 : h69 (m + 9) = some (cB D 16 (gB σ 17)) := (o71 _ (by omega)).trans hR17
      have hR21 : h69 (m + 10) = some (cI D 5 (f21)) := (o71 _ (by omega)).trans hR21
      have hR22 : h69 (m + 11) = some (cI D 5 (f22)) := (o71 _ (by omega)).trans hR22
      have hR31 : h69 (m + 12) = some (cI D 5 (gB σ 31)) := (o71 _ (by omega)).trans hR31
      have hR32 : h69 (m + 13) = some (cI D 4 (gB σ 32)) := (o71 _ (by omega)).trans hR32
      have hR33 : h69 (m + 14) = some (cI D 12 (gB σ 33)) := (o71 _ (by omega)).trans hR33
      have hR34 : h69 (m + 15) = some (cI D 12 (gB σ 34)) := (o71 _ (by omega)).trans hR34
      have hO : ∀ q, (q < m ∨ m + 16 ≤ q) → h69 q = h q := fun q hq => (o71 q (by omega)).trans (hO q hq)
      refine g_iinc C (v := 5) 0 ([(1, .int (5)), (2, .int (3)), (0, .ref (m))]) dX12_station_127 rfl (by decide) (by decide) rfl rfl ?_
      refine g_goto C dX12_station_130 (tgt := 115) (by decide) ?_
      refine g_iload_n C 0 dX12_station_115 rfl rfl rfl ?_
      refine g_iconst C (v := 4) dX12_station_116 (by decide) rfl ?_
      refine g_icmp_gt C dX12_station_117 (tgt := 133) (by decide) (pc' := 120) rfl (fun _ => ?_) (fun c117 => absurd (by decide) c117)
      refine g_aload_n C 2 dX12_station_133 rfl rfl rfl ?_
      refine g_iconst C (v := 0) dX12_station_134 (by decide) rfl ?_
      refine pf_12_95 C (hMo) (v := .int (0)) rfl rfl (Nat.le_of_ble_eq_true rfl) dX12_station_135 (pc' := 138) rfl (fun h72 e73 o74 => ?_)
      have hMo : h72 (m) = some (.inr (12, [.int (1), .int (nI ((gN σ 1 + 1))), .ref (m + 1), .int (nI (dgt (gB σ 17 12))), .int (nI (dgt (gB σ 17 13))), .int (0), .int (0), .ref (m + 2), .int (0), .ref (m + 3), .ref (m + 4), .ref (m + 5), .ref (m + 6), .int (nI (gN σ 13)), .ref (m + 7), .ref (m + 8), .int (nI (gN σ 16)), .ref (m + 9), .long (s18), .int (s19), .int (s20), .ref (m + 10), .ref (m + 11), .int (s23), .int (s24), .int (nI (gN σ 25)), .int (nI (gN σ 26)), .int (gI σ 27), .int (nI (gN σ 28)), .int (nI (gN σ 29)), .int (nI (gN σ 30)), .ref (m + 12), .ref (m + 13), .ref (m + 14), .ref (m + 15), .long (s35)])) := e73
      have hR2 : h72 (m + 1) = some (cI D 9 (upd (upd (upd (upd (upd (upd (upd (upd (upd (tnS σ) (0) (nI (dgt (gB σ 17 0)))) (1) (nI (dgt (gB σ 17 1)))) (2) (nI (dgt (gB σ 17 2)))) (3) (nI (dgt (gB σ 17 4)))) (4) (nI (dgt (gB σ 17 5)))) (5) (nI (dgt (gB σ 17 6)))) (6) (nI (dgt (gB σ 17 8)))) (7) (nI (dgt (gB σ 17 9)))) (8) (nI (dgt (gB σ 17 10))))) := (o74 _ (by omega)).trans hR2
      have hR7 : h72 (m + 2) = some (cI D 5 (upd (upd (upd (upd (upd (gB σ 7) (0) ((-1))) (1) ((-1))) (2) ((-1))) (3) ((-1))) (4) ((-1)))) := (o74 _ (by omega)).trans hR7
      have hR9 : h72 (m + 3) = some (cI D 4 (kdS σ)) := (o74 _ (by omega)).trans hR9
      have hR10 : h72 (m + 4) = some (cI D 4 (gB σ 10)) := (o74 _ (by omega)).trans hR10
      have hR11 : h72 (m + 5) = some (cI D 4 (gB σ 11)) := (o74 _ (by omega)).trans hR11
      have hR12 : h72 (m + 6) = some (cI D 4 (gB σ 12)) := (o74 _ (by omega)).trans hR12
      have hR14 : h72 (m + 7) = some (cI D 12 (gB σ 14)) := (o74 _ (by omega)).trans hR14
      have hR15 : h72 (m + 8) = some (cI D 12 (gB σ 15)) := (o74 _ (by omega)).trans hR15
      have hR17 : h72 (m + 9) = some (cB D 16 (gB σ 17)) := (o74 _ (by omega)).trans hR17
      have hR21 : h72 (m + 10) = some (cI D 5 (f21)) := (o74 _ (by omega)).trans hR21
      have hR22 : h72 (m + 11) = some (cI D 5 (f22)) := (o74 _ (by omega)).trans hR22
      have hR31 : h72 (m + 12) = some (cI D 5 (gB σ 31)) := (o74 _ (by omega)).trans hR31
      have hR32 : h72 (m + 13) = some (cI D 4 (gB σ 32)) := (o74 _ (by omega)).trans hR32
      have hR33 : h72 (m + 14) = some (cI D 12 (gB σ 33)) := (o74 _ (by omega)).trans hR33
      have hR34 : h72 (m + 15) = some (cI D 12 (gB σ 34)) := (o74 _ (by omega)).trans hR34
      have hO : ∀ q, (q < m ∨ m + 16 ≤ q) → h72 q = h q := fun q hq => (o74 q (by omega)).trans (hO q hq)
      refine g_aload_n C 2 dX12_station_138 rfl rfl rfl ?_
      refine g_iconst C (v := 0) dX12_station_139 (by decide) rfl ?_
      refine pf_12_98 C (hMo) (v := .int (0)) rfl rfl (Nat.le_of_ble_eq_true rfl) dX12_station_140 (pc' := 143) rfl (fun h75 e76 o77 => ?_)
      have hMo : h75 (m) = some (.inr (12, [.int (1), .int (nI ((gN σ 1 + 1))), .ref (m + 1), .int (nI (dgt (gB σ 17 12))), .int (nI (dgt (gB σ 17 13))), .int (0), .int (0), .ref (m + 2), .int (0), .ref (m + 3), .ref (m + 4), .ref (m + 5), .ref (m + 6), .int (0), .ref (m + 7), .ref (m + 8), .int (nI (gN σ 16)), .ref (m + 9), .long (s18), .int (s19), .int (s20), .ref (m + 10), .ref (m + 11), .int (s23), .int (s24), .int (nI (gN σ 25)), .int (nI (gN σ 26)), .int (gI σ 27), .int (nI (gN σ 28)), .int (nI (gN σ 29)), .int (nI (gN σ 30)), .ref (m + 12), .ref (m + 13), .ref (m + 14), .ref (m + 15), .long (s35)])) := e76
      have hR2 : h75 (m + 1) = some (cI D 9 (upd (upd (upd (upd (upd (upd (upd (upd (upd (tnS σ) (0) (nI (dgt (gB σ 17 0)))) (1) (nI (dgt (gB σ 17 1)))) (2) (nI (dgt (gB σ 17 2)))) (3) (nI (dgt (gB σ 17 4)))) (4) (nI (dgt (gB σ 17 5)))) (5) (nI (dgt (gB σ 17 6)))) (6) (nI (dgt (gB σ 17 8)))) (7) (nI (dgt (gB σ 17 9)))) (8) (nI (dgt (gB σ 17 10))))) := (o77 _ (by omega)).trans hR2
      have hR7 : h75 (m + 2) = some (cI D 5 (upd (upd (upd (upd (upd (gB σ 7) (0) ((-1))) (1) ((-1))) (2) ((-1))) (3) ((-1))) (4) ((-1)))) := (o77 _ (by omega)).trans hR7
      have hR9 : h75 (m + 3) = some (cI D 4 (kdS σ)) := (o77 _ (by omega)).trans hR9
      have hR10 : h75 (m + 4) = some (cI D 4 (gB σ 10)) := (o77 _ (by omega)).trans hR10
      have hR11 : h75 (m + 5) = some (cI D 4 (gB σ 11)) := (o77 _ (by omega)).trans hR11
      have hR12 : h75 (m + 6) = some (cI D 4 (gB σ 12)) := (o77 _ (by omega)).trans hR12
      have hR14 : h75 (m + 7) = some (cI D 12 (gB σ 14)) := (o77 _ (by omega)).trans hR14
      have hR15 : h75 (m + 8) = some (cI D 12 (gB σ 15)) := (o77 _ (by omega)).trans hR15
      have hR17 : h75 (m + 9) = some (cB D 16 (gB σ 17)) := (o77 _ (by omega)).trans hR17
      have hR21 : h75 (m + 10) = some (cI D 5 (f21)) := (o77 _ (by omega)).trans hR21
      have hR22 : h75 (m + 11) = some (cI D 5 (f22)) := (o77 _ (by omega)).trans hR22
      have hR31 : h75 (m + 12) = some (cI D 5 (gB σ 31)) := (o77 _ (by omega)).trans hR31
      have hR32 : h75 (m + 13) = some (cI D 4 (gB σ 32)) := (o77 _ (by omega)).trans hR32
      have hR33 : h75 (m + 14) = some (cI D 12 (gB σ 33)) := (o77 _ (by omega)).trans hR33
      have hR34 : h75 (m + 15) = some (cI D 12 (gB σ 34)) := (o77 _ (by omega)).trans hR34
      have hO : ∀ q, (q < m ∨ m + 16 ≤ q) → h75 q = h q := fun q hq => (o77 q (by omega)).trans (hO q hq)
      refine g_aload_n C 2 dX12_station_143 rfl rfl rfl ?_
      refine g_iconst C (v := 0) dX12_station_144 (by decide) rfl ?_
      refine pf_12_60 C (hMo) (v := .int (0)) rfl rfl (Nat.le_of_ble_eq_true rfl) dX12_station_145 (pc' := 148) rfl (fun h78 e79 o80 => ?_)
      have hMo : h78 (m) = some (.inr (12, [.int (1), .int (nI ((gN σ 1 + 1))), .ref (m + 1), .int (nI (dgt (gB σ 17 12))), .int (nI (dgt (gB σ 17 13))), .int (0), .int (0), .ref (m + 2), .int (0), .ref (m + 3), .ref (m + 4), .ref (m + 5), .ref (m + 6), .int (0), .ref (m + 7), .ref (m + 8), .int (0), .ref (m + 9), .long (s18), .int (s19), .int (s20), .ref (m + 10), .ref (m + 11), .int (s23), .int (s24), .int (nI (gN σ 25)), .int (nI (gN σ 26)), .int (gI σ 27), .int (nI (gN σ 28)), .int (nI (gN σ 29)), .int (nI (gN σ 30)), .ref (m + 12), .ref (m + 13), .ref (m + 14), .ref (m + 15), .long (s35)])) := e79
      have hR2 : h78 (m + 1) = some (cI D 9 (upd (upd (upd (upd (upd (upd (upd (upd (upd (tnS σ) (0) (nI (dgt (gB σ 17 0)))) (1) (nI (dgt (gB σ 17 1)))) (2) (nI (dgt (gB σ 17 2)))) (3) (nI (dgt (gB σ 17 4)))) (4) (nI (dgt (gB σ 17 5)))) (5) (nI (dgt (gB σ 17 6)))) (6) (nI (dgt (gB σ 17 8)))) (7) (nI (dgt (gB σ 17 9)))) (8) (nI (dgt (gB σ 17 10))))) := (o80 _ (by omega)).trans hR2
      have hR7 : h78 (m + 2) = some (cI D 5 (upd (upd (upd (upd (upd (gB σ 7) (0) ((-1))) (1) ((-1))) (2) ((-1))) (3) ((-1))) (4) ((-1)))) := (o80 _ (by omega)).trans hR7
      have hR9 : h78 (m + 3) = some (cI D 4 (kdS σ)) := (o80 _ (by omega)).trans hR9
      have hR10 : h78 (m + 4) = some (cI D 4 (gB σ 10)) := (o80 _ (by omega)).trans hR10
      have hR11 : h78 (m + 5) = some (cI D 4 (gB σ 11)) := (o80 _ (by omega)).trans hR11
      have hR12 : h78 (m + 6) = some (cI D 4 (gB σ 12)) := (o80 _ (by omega)).trans hR12
      have hR14 : h78 (m + 7) = some (cI D 12 (gB σ 14)) := (o80 _ (by omega)).trans hR14
      have hR15 : h78 (m + 8) = some (cI D 12 (gB σ 15)) := (o80 _ (by omega)).trans hR15
      have hR17 : h78 (m + 9) = some (cB D 16 (gB σ 17)) := (o80 _ (by omega)).trans hR17
      have hR21 : h78 (m + 10) = some (cI D 5 (f21)) := (o80 _ (by omega)).trans hR21
      have hR22 : h78 (m + 11) = some (cI D 5 (f22)) := (o80 _ (by omega)).trans hR22
      have hR31 : h78 (m + 12) = some (cI D 5 (gB σ 31)) := (o80 _ (by omega)).trans hR31
      have hR32 : h78 (m + 13) = some (cI D 4 (gB σ 32)) := (o80 _ (by omega)).trans hR32
      have hR33 : h78 (m + 14) = some (cI D 12 (gB σ 33)) := (o80 _ (by omega)).trans hR33
      have hR34 : h78 (m + 15) = some (cI D 12 (gB σ 34)) := (o80 _ (by omega)).trans hR34
      have hO : ∀ q, (q < m ∨ m + 16 ≤ q) → h78 q = h q := fun q hq => (o80 q (by omega)).trans (hO q hq)
      refine g_aload_n C 2 dX12_station_148 rfl rfl rfl ?_
      refine gf_12_76 C (hMo) (v := .int (nI (dgt (gB σ 17 12)))) rfl dX12_station_149 rfl ?_
      refine g_canon C (hR2) (g := tnS (stN σ)) (lt9c rfl rfl rfl rfl rfl rfl rfl rfl rfl) (fun h81 e82 o83 => ?_)
      have hR2 : h81 (m + 1) = some (cI D 9 (tnS (stN σ))) := e82
      have hMo : h81 (m) = some (.inr (12, [.int (1), .int (nI ((gN σ 1 + 1))), .ref (m + 1), .int (nI (dgt (gB σ 17 12))), .int (nI (dgt (gB σ 17 13))), .int (0), .int (0), .ref (m + 2), .int (0), .ref (m + 3), .ref (m + 4), .ref (m + 5), .ref (m + 6), .int (0), .ref (m + 7), .ref (m + 8), .int (0), .ref (m + 9), .long (s18), .int (s19), .int (s20), .ref (m + 10), .ref (m + 11), .int (s23), .int (s24), .int (nI (gN σ 25)), .int (nI (gN σ 26)), .int (gI σ 27), .int (nI (gN σ 28)), .int (nI (gN σ 29)), .int (nI (gN σ 30)), .ref (m + 12), .ref (m + 13), .ref (m + 14), .ref (m + 15), .long (s35)])) := (o83 _ (by omega)).trans hMo
      have hR7 : h81 (m + 2) = some (cI D 5 (upd (upd (upd (upd (upd (gB σ 7) (0) ((-1))) (1) ((-1))) (2) ((-1))) (3) ((-1))) (4) ((-1)))) := (o83 _ (by omega)).trans hR7
      have hR9 : h81 (m + 3) = some (cI D 4 (kdS σ)) := (o83 _ (by omega)).trans hR9
      have hR10 : h81 (m + 4) = some (cI D 4 (gB σ 10)) := (o83 _ (by omega)).trans hR10
      have hR11 : h81 (m + 5) = some (cI D 4 (gB σ 11)) := (o83 _ (by omega)).trans hR11
      have hR12 : h81 (m + 6) = some (cI D 4 (gB σ 12)) := (o83 _ (by omega)).trans hR12
      have hR14 : h81 (m + 7) = some (cI D 12 (gB σ 14)) := (o83 _ (by omega)).trans hR14
      have hR15 : h81 (m + 8) = some (cI D 12 (gB σ 15)) := (o83 _ (by omega)).trans hR15
      have hR17 : h81 (m + 9) = some (cB D 16 (gB σ 17)) := (o83 _ (by omega)).trans hR17
      have hR21 : h81 (m + 10) = some (cI D 5 (f21)) := (o83 _ (by omega)).trans hR21
      have hR22 : h81 (m + 11) = some (cI D 5 (f22)) := (o83 _ (by omega)).trans hR22
      have hR31 : h81 (m + 12) = some (cI D 5 (gB σ 31)) := (o83 _ (by omega)).trans hR31
      have hR32 : h81 (m + 13) = some (cI D 4 (gB σ 32)) := (o83 _ (by omega)).trans hR32
      have hR33 : h81 (m + 14) = some (cI D 12 (gB σ 33)) := (o83 _ (by omega)).trans hR33
      have hR34 : h81 (m + 15) = some (cI D 12 (gB σ 34)) := (o83 _ (by omega)).trans hR34
      have hO : ∀ q, (q < m ∨ m + 16 ≤ q) → h81 q = h q := fun q hq => (o83 q (by omega)).trans (hO q hq)
      refine g_canon C (hR7) (g := fun _ => -1) (lt5 (by simp [upd]) (by simp [upd]) (by simp [upd]) (by simp [upd]) (by simp [upd])) (fun h84 e85 o86 => ?_)
      have hR7 : h84 (m + 2) = some (cI D 5 (fun _ => -1)) := e85
      have hMo : h84 (m) = some (.inr (12, [.int (1), .int (nI ((gN σ 1 + 1))), .ref (m + 1), .int (nI (dgt (gB σ 17 12))), .int (nI (dgt (gB σ 17 13))), .int (0), .int (0), .ref (m + 2), .int (0), .ref (m + 3), .ref (m + 4), .ref (m + 5), .ref (m + 6), .int (0), .ref (m + 7), .ref (m + 8), .int (0), .ref (m + 9), .long (s18), .int (s19), .int (s20), .ref (m + 10), .ref (m + 11), .int (s23), .int (s24), .int (nI (gN σ 25)), .int (nI (gN σ 26)), .int (gI σ 27), .int (nI (gN σ 28)), .int (nI (gN σ 29)), .int (nI (gN σ 30)), .ref (m + 12), .ref (m + 13), .ref (m + 14), .ref (m + 15), .long (s35)])) := (o86 _ (by omega)).trans hMo
      have hR2 : h84 (m + 1) = some (cI D 9 (tnS (stN σ))) := (o86 _ (by omega)).trans hR2
      have hR9 : h84 (m + 3) = some (cI D 4 (kdS σ)) := (o86 _ (by omega)).trans hR9
      have hR10 : h84 (m + 4) = some (cI D 4 (gB σ 10)) := (o86 _ (by omega)).trans hR10
      have hR11 : h84 (m + 5) = some (cI D 4 (gB σ 11)) := (o86 _ (by omega)).trans hR11
      have hR12 : h84 (m + 6) = some (cI D 4 (gB σ 12)) := (o86 _ (by omega)).trans hR12
      have hR14 : h84 (m + 7) = some (cI D 12 (gB σ 14)) := (o86 _ (by omega)).trans hR14
      have hR15 : h84 (m + 8) = some (cI D 12 (gB σ 15)) := (o86 _ (by omega)).trans hR15
      have hR17 : h84 (m + 9) = some (cB D 16 (gB σ 17)) := (o86 _ (by omega)).trans hR17
      have hR21 : h84 (m + 10) = some (cI D 5 (f21)) := (o86 _ (by omega)).trans hR21
      have hR22 : h84 (m + 11) = some (cI D 5 (f22)) := (o86 _ (by omega)).trans hR22
      have hR31 : h84 (m + 12) = some (cI D 5 (gB σ 31)) := (o86 _ (by omega)).trans hR31
      have hR32 : h84 (m + 13) = some (cI D 4 (gB σ 32)) := (o86 _ (by omega)).trans hR32
      have hR33 : h84 (m + 14) = some (cI D 12 (gB σ 33)) := (o86 _ (by omega)).trans hR33
      have hR34 : h84 (m + 15) = some (cI D 12 (gB σ 34)) := (o86 _ (by omega)).trans hR34
      have hO : ∀ q, (q < m ∨ m + 16 ≤ q) → h84 q = h q := fun q hq => (o86 q (by omega)).trans (hO q hq)
      have hM : MdO h84 m (stN σ) (s18) (s19) (s20) (s23) (s24) (s35) := hMo
      have hR : MdR D h84 m (stN σ) (f21) (f22) := ⟨hR2, hR7, hR9, hR10, hR11, hR12, hR14, hR15, hR17, hR21, hR22, hR31, hR32, hR33, hR34⟩
      exact ret _ _ _ _ dX12_station_152 rfl (⟨by unfold mStation; rw [cIf_t ⟨by omega, hg14⟩]; exact ⟨rfl, ⟨_, _, _, _, _, _, _, _, hM, hR⟩⟩, hO⟩)
    · intro c17
      replace c17 := (not_congr (nI_eq (a := gN σ 16) (b := 14) (by omega) (by omega))).mp c17
      refine g_bipush C (v := -103) dX12_station_20 (by decide) rfl ?_
      exact ret _ _ _ _ dX12_station_22 rfl (⟨by unfold mStation; rw [cIf_f (fun g => c17 g.1)]; exact ⟨rfl, ⟨_, _, _, _, _, _, _, _, hM, hR⟩⟩, fun _ _ => rfl⟩)

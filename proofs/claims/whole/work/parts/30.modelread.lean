/-! the reference model: a reading, a day -/
theorem wgC_of {σ τ : sg} (h : stS σ = stS τ) (h6 : gN σ 6 = gN τ 6) : wgC σ = wgC τ := by
  unfold wgC odC
  rw [h, h6]
theorem mcS_of {σ τ : sg} (h : stS σ = stS τ) (h6 : gN σ 6 = gN τ 6) {p : Nat} (hk : kdS σ p = kdS τ p) (h10 : gB σ 10 p = gB τ 10 p) (h11 : gB σ 11 p = gB τ 11 p) (h7 : gB σ 7 1 = gB τ 7 1) : mcS σ p = mcS τ p := by
  unfold mcS
  rw [wgC_of h h6, hk, h10, h11, h7]
noncomputable def mReading (σ : sg) (v : Int32) : Int32 × sg := cIf (inP 0 2 v) (if gN σ 0 = 0 then (-103, σ) else (if wgC (uB σ 7 (upR σ v)) 1 (-1) = 0 then (-103, σ) else (nI (cntR (upR σ v) 4), uB σ 7 (upR σ v)))) (-101, σ)
set_option maxHeartbeats 4000000 in
set_option maxRecDepth 100000 in
theorem k_X12_reading (l : Launch) (D : va_G) (b z : Nat) {h : qH} {m : Nat} {σ : sg} {s18 s35 : Int64} {s19 s20 s23 s24 : Int32} {f21 f22 : Nat → Int32} (hM : MdO h m σ s18 s19 s20 s23 s24 s35) (hR : MdR D h m σ f21 f22) (h0 : gN σ 0 ≤ 1) (h3 : gN σ 3 ≤ 4) (h6 : gN σ 6 < 3) (v : Int32) : qMi l D b yX12_reading cX12_reading 3 .int 3 74 [.ref (m), .int (v)] h z (fun r0 h' => (r0 = (mReading σ v).1 ∧ MdlAt D h' m (mReading σ v).2) ∧ ∀ q, (q < m ∨ m + 16 ≤ q) → h' q = h q) := by
  refine q_i (L := [(0, .ref (m)), (1, .int (v))]) (own := RX12) (by decide) rfl (Nat.le_of_ble_eq_true rfl) rfl ?_
  intro X C ret
  have hO : ∀ q, (q < m ∨ m + 16 ≤ q) → h q = h q := fun _ _ => rfl
  refine g_iload_n C 1 dX12_reading_0 rfl rfl rfl ?_
  refine g_callSi C (As := [.int (v)]) (k_X12_isWeather l D b z h (v)) hw_12_101 (by decide) rfl rfl (Nat.le_of_ble_eq_true rfl) ⟨Nat.zero_le _, Nat.zero_le _⟩ dX12_reading_1 (pc' := 4) rfl ?_
  rintro r1 h9 ⟨⟨er, hp1⟩ | ⟨er, hp1⟩, e9⟩
  · subst h9; subst er
    have hp1_ := hp1
    obtain ⟨i, rfl, hp1a, hp1b⟩ := hp1_
    refine g_if_ne C dX12_reading_4 (tgt := 10) (by decide) (pc' := 7) rfl (fun _ => ?_) (fun c4 => absurd c4 (by decide))
    refine g_aload_n C 0 dX12_reading_10 rfl rfl rfl ?_
    refine gf_12_82 C (hM) (v := .int (nI (gN σ 0))) rfl dX12_reading_11 rfl ?_
    refine g_if_ne C dX12_reading_14 (tgt := 20) (by decide) (pc' := 17) rfl ?_ ?_
    · intro c14
      replace c14 := (not_congr (nI_eq (a := gN σ 0) (b := 0) (by omega) (by omega))).mp c14
      refine g_aload_n C 0 dX12_reading_20 rfl rfl rfl ?_
      refine gf_12_13 C (hM) (v := .ref (m + 2)) rfl dX12_reading_21 rfl ?_
      refine g_aload_n C 0 dX12_reading_24 rfl rfl rfl ?_
      refine gf_12_76 C (hM) (v := .int (nI (gN σ 3))) rfl dX12_reading_25 rfl ?_
      refine g_iald' C (hR.2.1) (j := gN σ 3) rfl (by omega) (by decide) dX12_reading_28 rfl ?_
      refine g_istore_n C ([(2, .int (gB σ 7 (gN σ 3))), (0, .ref (m)), (1, .int (nI (i)))]) dX12_reading_29 rfl (by decide) rfl rfl ?_
      refine g_aload_n C 1 dX12_reading_30 rfl rfl rfl ?_
      refine gf_12_13 C (hM) (v := .ref (m + 2)) rfl dX12_reading_31 rfl ?_
      refine g_aload_n C 1 dX12_reading_34 rfl rfl rfl ?_
      refine gf_12_76 C (hM) (v := .int (nI (gN σ 3))) rfl dX12_reading_35 rfl ?_
      refine g_iload_n C 2 dX12_reading_38 rfl rfl rfl ?_
      refine g_iast' C (hR.2.1) (j := gN σ 3) rfl (by omega) (by decide) dX12_reading_39 (pc' := 40) rfl (fun h2 e3 o4 => ?_)
      have hM : MdO h2 m (uB (σ) 7 (upd (gB σ 7) (gN σ 3) (nI (i)))) (s18) (s19) (s20) (s23) (s24) (s35) := (o4 _ (by omega)).trans hM
      have hR : MdR D h2 m (uB (σ) 7 (upd (gB σ 7) (gN σ 3) (nI (i)))) (f21) (f22) := ⟨(o4 _ (by omega)).trans hR.1, e3, (o4 _ (by omega)).trans hR.2.2.1, (o4 _ (by omega)).trans hR.2.2.2.1, (o4 _ (by omega)).trans hR.2.2.2.2.1, (o4 _ (by omega)).trans hR.2.2.2.2.2.1, (o4 _ (by omega)).trans hR.2.2.2.2.2.2.1, (o4 _ (by omega)).trans hR.2.2.2.2.2.2.2.1, (o4 _ (by omega)).trans hR.2.2.2.2.2.2.2.2.1, (o4 _ (by omega)).trans hR.2.2.2.2.2.2.2.2.2.1, (o4 _ (by omega)).trans hR.2.2.2.2.2.2.2.2.2.2.1, (o4 _ (by omega)).trans hR.2.2.2.2.2.2.2.2.2.2.2.1, (o4 _ (by omega)).trans hR.2.2.2.2.2.2.2.2.2.2.2.2.1, (o4 _ (by omega)).trans hR.2.2.2.2.2.2.2.2.2.2.2.2.2.1, (o4 _ (by omega)).trans hR.2.2.2.2.2.2.2.2.2.2.2.2.2.2⟩
      have hO : ∀ q, (q < m ∨ m + 16 ≤ q) → h2 q = h q := fun q hq => (o4 q (by omega)).trans (hO q hq)
      refine g_aload_n C 1 dX12_reading_40 rfl rfl rfl ?_
      refine g_iconst C (v := 1) dX12_reading_41 (by decide) rfl ?_
      refine g_iconst C (v := -1) dX12_reading_42 (by decide) rfl ?_
      refine g_callVl C (As := [.int (1), .int ((-1))]) (q := (RX12, TX12, 36)) (k_X12_weightOf l D b z hM hR h6 (a := 1) (by omega) ((-1))) hw_12_115 (hM) rfl (by decide) rfl rfl (Nat.le_of_ble_eq_true rfl) ⟨Nat.zero_le _, Nat.zero_le _⟩ dX12_reading_43 (pc' := 46) rfl ?_
      rintro r5 h9 ⟨er, e9⟩
      subst h9; subst er
      refine g_lconst C (v := 0) dX12_reading_46 (by decide) rfl ?_
      refine g_lcmp C dX12_reading_47 rfl ?_
      refine g_if_ne C dX12_reading_48 (tgt := 64) (by decide) (pc' := 51) rfl ?_ ?_
      · intro c48
        replace c48 := (not_congr (lg_cmp_eq _ _)).mp c48
        refine g_aload_n C 1 dX12_reading_64 rfl rfl rfl ?_
        refine g_callVi C (As := []) (q := (RX12, TX12, 36)) (k_X12_toldMany l D b z hM hR) hw_12_119 (hM) rfl (by decide) rfl rfl (Nat.le_of_ble_eq_true rfl) ⟨Nat.zero_le _, Nat.zero_le _⟩ dX12_reading_65 (pc' := 68) rfl ?_
        rintro r6 h9 ⟨er, e9⟩
        subst h9; subst er
        exact ret _ _ _ _ dX12_reading_68 rfl (⟨by unfold mReading upR; rw [cIf_t hp1, if_neg c14, if_neg c48]; exact ⟨rfl, ⟨_, _, _, _, _, _, _, _, hM, hR⟩⟩, hO⟩)
      · intro c48
        replace c48 := (lg_cmp_eq _ _).mp c48
        refine g_aload_n C 1 dX12_reading_51 rfl rfl rfl ?_
        refine gf_12_13 C (hM) (v := .ref (m + 2)) rfl dX12_reading_52 rfl ?_
        refine g_aload_n C 1 dX12_reading_55 rfl rfl rfl ?_
        refine gf_12_76 C (hM) (v := .int (nI (gN σ 3))) rfl dX12_reading_56 rfl ?_
        refine g_iload_n C 0 dX12_reading_59 rfl rfl rfl ?_
        refine g_iast' C (hR.2.1) (j := gN σ 3) rfl (by omega) (by decide) dX12_reading_60 (pc' := 61) rfl (fun h7 e8 o9 => ?_)
        have hM : MdO h7 m (uB (uB (σ) 7 (upd (gB σ 7) (gN σ 3) (nI (i)))) 7 (upd (upd (gB σ 7) (gN σ 3) (nI (i))) (gN σ 3) (gB σ 7 (gN σ 3)))) (s18) (s19) (s20) (s23) (s24) (s35) := (o9 _ (by omega)).trans hM
        have hR : MdR D h7 m (uB (uB (σ) 7 (upd (gB σ 7) (gN σ 3) (nI (i)))) 7 (upd (upd (gB σ 7) (gN σ 3) (nI (i))) (gN σ 3) (gB σ 7 (gN σ 3)))) (f21) (f22) := ⟨(o9 _ (by omega)).trans hR.1, e8, (o9 _ (by omega)).trans hR.2.2.1, (o9 _ (by omega)).trans hR.2.2.2.1, (o9 _ (by omega)).trans hR.2.2.2.2.1, (o9 _ (by omega)).trans hR.2.2.2.2.2.1, (o9 _ (by omega)).trans hR.2.2.2.2.2.2.1, (o9 _ (by omega)).trans hR.2.2.2.2.2.2.2.1, (o9 _ (by omega)).trans hR.2.2.2.2.2.2.2.2.1, (o9 _ (by omega)).trans hR.2.2.2.2.2.2.2.2.2.1, (o9 _ (by omega)).trans hR.2.2.2.2.2.2.2.2.2.2.1, (o9 _ (by omega)).trans hR.2.2.2.2.2.2.2.2.2.2.2.1, (o9 _ (by omega)).trans hR.2.2.2.2.2.2.2.2.2.2.2.2.1, (o9 _ (by omega)).trans hR.2.2.2.2.2.2.2.2.2.2.2.2.2.1, (o9 _ (by omega)).trans hR.2.2.2.2.2.2.2.2.2.2.2.2.2.2⟩
        have hO : ∀ q, (q < m ∨ m + 16 ≤ q) → h7 q = h q := fun q hq => (o9 q (by omega)).trans (hO q hq)
        refine g_bipush C (v := -103) dX12_reading_61 (by decide) rfl ?_
        refine g_canon C ((show h7 (m + 2) = some (cI D 5 (upd (upd (gB σ 7) (gN σ 3) (nI (i))) (gN σ 3) (gB σ 7 (gN σ 3)))) from hR.2.1)) (g := gB σ 7) (fun j hj => by simp only [upd]; split; (rename_i e; rw [e]); rfl) (fun h10 e11 o12 => ?_)
        have hM : MdO h10 m (σ) (s18) (s19) (s20) (s23) (s24) (s35) := (o12 _ (by omega)).trans hM
        have hR : MdR D h10 m (σ) (f21) (f22) := ⟨(o12 _ (by omega)).trans hR.1, e11, (o12 _ (by omega)).trans hR.2.2.1, (o12 _ (by omega)).trans hR.2.2.2.1, (o12 _ (by omega)).trans hR.2.2.2.2.1, (o12 _ (by omega)).trans hR.2.2.2.2.2.1, (o12 _ (by omega)).trans hR.2.2.2.2.2.2.1, (o12 _ (by omega)).trans hR.2.2.2.2.2.2.2.1, (o12 _ (by omega)).trans hR.2.2.2.2.2.2.2.2.1, (o12 _ (by omega)).trans hR.2.2.2.2.2.2.2.2.2.1, (o12 _ (by omega)).trans hR.2.2.2.2.2.2.2.2.2.2.1, (o12 _ (by omega)).trans hR.2.2.2.2.2.2.2.2.2.2.2.1, (o12 _ (by omega)).trans hR.2.2.2.2.2.2.2.2.2.2.2.2.1, (o12 _ (by omega)).trans hR.2.2.2.2.2.2.2.2.2.2.2.2.2.1, (o12 _ (by omega)).trans hR.2.2.2.2.2.2.2.2.2.2.2.2.2.2⟩
        have hO : ∀ q, (q < m ∨ m + 16 ≤ q) → h10 q = h q := fun q hq => (o12 q (by omega)).trans (hO q hq)
        exact ret _ _ _ _ dX12_reading_63 rfl (⟨by unfold mReading upR; rw [cIf_t hp1, if_neg c14, if_pos c48]; exact ⟨rfl, ⟨_, _, _, _, _, _, _, _, hM, hR⟩⟩, hO⟩)
    · intro c14
      replace c14 := (nI_eq (a := gN σ 0) (b := 0) (by omega) (by omega)).mp c14
      refine g_bipush C (v := -103) dX12_reading_17 (by decide) rfl ?_
      exact ret _ _ _ _ dX12_reading_19 rfl (⟨by unfold mReading upR; rw [cIf_t hp1, if_pos c14]; exact ⟨rfl, ⟨_, _, _, _, _, _, _, _, hM, hR⟩⟩, fun _ _ => rfl⟩)
  · subst h9; subst er
    refine g_if_ne C dX12_reading_4 (tgt := 10) (by decide) (pc' := 7) rfl (fun c4 => absurd (by decide) c4) (fun _ => ?_)
    refine g_bipush C (v := -101) dX12_reading_7 (by decide) rfl ?_
    exact ret _ _ _ _ dX12_reading_9 rfl (⟨by unfold mReading upR; rw [cIf_f hp1]; exact ⟨rfl, ⟨_, _, _, _, _, _, _, _, hM, hR⟩⟩, fun _ _ => rfl⟩)
noncomputable def mdV (σ : sg) (w i : Nat) : Int32 := payV (mcS σ i) (gB σ 10 i) (gB σ 11 i) (nI w)
noncomputable def pdM (σ : sg) (w k : Nat) : Nat → Int32 := fun j => if j < k then gB σ 12 j + mdV σ w j else gB σ 12 j
noncomputable def saM (σ : sg) (w : Nat) : Nat → Int32
  | 0 => 0
  | k + 1 => saM σ w k + mdV σ w k
theorem pdM_0 (σ : sg) (w : Nat) : pdM σ w 0 = gB σ 12 := by funext j; simp [pdM]
theorem pdM_s (σ : sg) (w k : Nat) : upd (pdM σ w k) k (pdM σ w k k + mdV σ w k) = pdM σ w (k + 1) := by
  funext j
  simp only [upd, pdM]
  by_cases e : j = k
  · subst e; rw [if_pos rfl, if_neg (Nat.lt_irrefl _), if_pos (Nat.lt_succ_self _)]
  · rw [if_neg e]
    by_cases g : j < k
    · rw [if_pos g, if_pos (by omega)]
    · rw [if_neg g, if_neg (by omega)]
theorem up_0 (f : Nat → Int32) (k : Nat) : upd f k (f k + 0) = f := by
  funext j
  simp only [upd]
  split
  · rename_i e; subst e; exact Int32.add_zero _
  · rfl
noncomputable def dyM0 (σ : sg) (w : Nat) : sg := uB (uN (uI σ 5 (gI σ 5 + 1)) 6 w) 7 (shR (gB σ 7))
noncomputable def dyM (σ : sg) (w : Nat) : sg := uB (uB (uN (uI σ 5 (gI σ 5 + 1)) 6 w) 7 (shR (gB σ 7))) 12 (pdM σ w (gN σ 8))
theorem mcS_12 (σ : sg) (f : Nat → Int32) (p : Nat) : mcS (uB σ 12 f) p = mcS σ p := mcS_of rfl rfl rfl rfl rfl rfl
theorem mdV_t {σ : sg} {w p : Nat} (h : mcS σ p) : gB σ 10 p = mdV σ w p := by unfold mdV payV; rw [if_pos h]
theorem mdV_w {σ : sg} {w p : Nat} (h : ¬ mcS σ p) (hw : w = 1) : gB σ 11 p = mdV σ w p := by subst hw; unfold mdV payV; rw [if_neg h, if_pos (show nI 1 = 1 from rfl)]
theorem mdV_f {σ : sg} {w p : Nat} (h : ¬ mcS σ p) (hw3 : w < 3) (hw : ¬ w = 1) : 0 = mdV σ w p := by unfold mdV payV; rw [if_neg h, if_neg (fun g : nI w = 1 => hw (nIinj (b := 1) (by omega) (by decide) g))]
set_option maxHeartbeats 4000000 in
set_option maxRecDepth 100000 in
theorem k1_X12_goDay (l : Launch) (D : va_G) (b z : Nat) {h : qH} {m : Nat} {σ : sg} {s18 s35 : Int64} {s19 s20 s23 s24 : Int32} {f21 f22 : Nat → Int32} (hM : MdO h m σ s18 s19 s20 s23 s24 s35) (hR : MdR D h m σ f21 f22) (h6 : gN σ 6 < 3) (h8 : gN σ 8 ≤ 4) {w : Nat} (hw : w < 3) : qMi l D b yX12_goDay cX12_goDay 6 .int 4 96 [.ref (m), .int (nI (w)), .int (1)] h z (fun r0 h' => r0 = saM σ w (gN σ 8) ∧ MdO h' m (dyM σ w) s18 s19 s20 s23 s24 s35 ∧ MdR D h' m (dyM σ w) f21 f22 ∧ ∀ q, (q < m ∨ m + 16 ≤ q) → h' q = h q) := by
  refine q_i (L := [(0, .ref (m)), (1, .int (nI (w))), (2, .int (1))]) (own := RX12) (by decide) rfl (Nat.le_of_ble_eq_true rfl) rfl ?_
  intro X C ret
  have hO : ∀ q, (q < m ∨ m + 16 ≤ q) → h q = h q := fun _ _ => rfl
  refine g_iconst C (v := 0) dX12_goDay_0 (by decide) rfl ?_
  refine g_istore_n C ([(3, .int (0)), (0, .ref (m)), (1, .int (nI (w))), (2, .int (1))]) dX12_goDay_1 rfl (by decide) rfl rfl ?_
  refine g_iconst C (v := 0) dX12_goDay_2 (by decide) rfl ?_
  refine g_istore C ([(4, .int (0)), (3, .int (0)), (0, .ref (m)), (1, .int (nI (w))), (2, .int (1))]) dX12_goDay_3 (by decide) rfl rfl ?_
  have loop5 : ∀ (N : Nat) (p : Nat) (ac : Int32) (h1 : qH) (pf : Nat → Int32), 5 - p < N → (p ≤ gN σ 8) → (pf = pdM σ w p) → (MdO h1 m (uB σ 12 pf) s18 s19 s20 s23 s24 s35) → (MdR D h1 m (uB σ 12 pf) f21 f22) → (∀ q, (q < m ∨ m + 16 ≤ q) → h1 q = h q) → (ac = saM σ w p) → qG X 0 0 z h1 5 [(4, .int (nI (p))), (3, .int (ac)), (0, .ref (m)), (1, .int (nI (w))), (2, .int (1))] [] := by
    intro N
    induction N with
    | zero => intro p ac h1 pf hm; exact absurd hm (Nat.not_lt_zero _)
    | succ N ih5 =>
      intro p ac h1 pf hm hp hpf hM hR hO hac
      refine g_iload C 0 dX12_goDay_5 rfl rfl ?_
      refine g_aload_n C 2 dX12_goDay_7 rfl rfl rfl ?_
      refine gf_12_95 C (hM) (v := .int (nI (gN σ 8))) rfl dX12_goDay_8 rfl ?_
      refine g_icmp_ge C dX12_goDay_11 (tgt := 82) (by decide) (pc' := 14) rfl ?_ ?_
      · intro c11
        replace c11 := (nI_leI (a := gN σ 8) (b := p) (by omega) (by omega)).mp c11
        refine g_iconst C (v := 1) dX12_goDay_82 (by decide) rfl ?_
        refine g_istore C ([(4, .int (1)), (3, .int (ac)), (0, .ref (m)), (1, .int (nI (w))), (2, .int (1))]) dX12_goDay_83 (by decide) rfl rfl ?_
        refine g_iload C 0 dX12_goDay_85 rfl rfl ?_
        refine g_iconst C (v := 4) dX12_goDay_87 (by decide) rfl ?_
        refine g_icmp_gt C dX12_goDay_88 (tgt := 123) (by decide) (pc' := 91) rfl (fun c88 => absurd c88 (by decide)) (fun _ => ?_)
        refine g_aload_n C 2 dX12_goDay_91 rfl rfl rfl ?_
        refine gf_12_13 C (hM) (v := .ref (m + 2)) rfl dX12_goDay_92 rfl ?_
        refine g_iload C 0 dX12_goDay_95 rfl rfl ?_
        refine g_iload C 0 dX12_goDay_97 rfl rfl ?_
        refine g_iconst C (v := 4) dX12_goDay_99 (by decide) rfl ?_
        refine g_icmp_ne C dX12_goDay_100 (tgt := 107) (by decide) (pc' := 103) rfl (fun _ => ?_) (fun c100 => absurd c100 (by decide))
        refine g_aload_n C 2 dX12_goDay_107 rfl rfl rfl ?_
        refine gf_12_13 C (hM) (v := .ref (m + 2)) rfl dX12_goDay_108 rfl ?_
        refine g_iload C 0 dX12_goDay_111 rfl rfl ?_
        refine g_iconst C (v := 1) dX12_goDay_113 (by decide) rfl ?_
        refine g_iadd C dX12_goDay_114 rfl ?_
        refine g_topi (y := 2) (by decide) ?_
        refine g_iald' C (hR.2.1) (j := 2) rfl (by omega) (by decide) dX12_goDay_115 rfl ?_
        refine g_iast' C (hR.2.1) (j := 1) rfl (by omega) (by decide) dX12_goDay_116 (pc' := 117) rfl (fun h1 e2 o3 => ?_)
        have hM : MdO h1 m (uB (uB (σ) 12 (pf)) 7 (upd (gB σ 7) (1) (gB σ 7 (2)))) (s18) (s19) (s20) (s23) (s24) (s35) := (o3 _ (by omega)).trans hM
        have hR : MdR D h1 m (uB (uB (σ) 12 (pf)) 7 (upd (gB σ 7) (1) (gB σ 7 (2)))) (f21) (f22) := ⟨(o3 _ (by omega)).trans hR.1, e2, (o3 _ (by omega)).trans hR.2.2.1, (o3 _ (by omega)).trans hR.2.2.2.1, (o3 _ (by omega)).trans hR.2.2.2.2.1, (o3 _ (by omega)).trans hR.2.2.2.2.2.1, (o3 _ (by omega)).trans hR.2.2.2.2.2.2.1, (o3 _ (by omega)).trans hR.2.2.2.2.2.2.2.1, (o3 _ (by omega)).trans hR.2.2.2.2.2.2.2.2.1, (o3 _ (by omega)).trans hR.2.2.2.2.2.2.2.2.2.1, (o3 _ (by omega)).trans hR.2.2.2.2.2.2.2.2.2.2.1, (o3 _ (by omega)).trans hR.2.2.2.2.2.2.2.2.2.2.2.1, (o3 _ (by omega)).trans hR.2.2.2.2.2.2.2.2.2.2.2.2.1, (o3 _ (by omega)).trans hR.2.2.2.2.2.2.2.2.2.2.2.2.2.1, (o3 _ (by omega)).trans hR.2.2.2.2.2.2.2.2.2.2.2.2.2.2⟩
        have hO : ∀ q, (q < m ∨ m + 16 ≤ q) → h1 q = h q := fun q hq => (o3 q (by omega)).trans (hO q hq)
        refine g_iinc C (v := 2) 0 ([(4, .int (2)), (3, .int (ac)), (0, .ref (m)), (1, .int (nI (w))), (2, .int (1))]) dX12_goDay_117 rfl (by decide) (by decide) rfl rfl ?_
        refine g_goto C dX12_goDay_120 (tgt := 85) (by decide) ?_
        refine g_iload C 0 dX12_goDay_85 rfl rfl ?_
        refine g_iconst C (v := 4) dX12_goDay_87 (by decide) rfl ?_
        refine g_icmp_gt C dX12_goDay_88 (tgt := 123) (by decide) (pc' := 91) rfl (fun c88 => absurd c88 (by decide)) (fun _ => ?_)
        refine g_aload_n C 2 dX12_goDay_91 rfl rfl rfl ?_
        refine gf_12_13 C (hM) (v := .ref (m + 2)) rfl dX12_goDay_92 rfl ?_
        refine g_iload C 0 dX12_goDay_95 rfl rfl ?_
        refine g_iload C 0 dX12_goDay_97 rfl rfl ?_
        refine g_iconst C (v := 4) dX12_goDay_99 (by decide) rfl ?_
        refine g_icmp_ne C dX12_goDay_100 (tgt := 107) (by decide) (pc' := 103) rfl (fun _ => ?_) (fun c100 => absurd c100 (by decide))
        refine g_aload_n C 2 dX12_goDay_107 rfl rfl rfl ?_
        refine gf_12_13 C (hM) (v := .ref (m + 2)) rfl dX12_goDay_108 rfl ?_
        refine g_iload C 0 dX12_goDay_111 rfl rfl ?_
        refine g_iconst C (v := 1) dX12_goDay_113 (by decide) rfl ?_
        refine g_iadd C dX12_goDay_114 rfl ?_
        refine g_topi (y := 3) (by decide) ?_
        refine g_iald' C (hR.2.1) (j := 3) rfl (by omega) (by decide) dX12_goDay_115 rfl ?_
        refine g_iast' C (hR.2.1) (j := 2) rfl (by omega) (by decide) dX12_goDay_116 (pc' := 117) rfl (fun h4 e5 o6 => ?_)
        have hM : MdO h4 m (uB (uB (uB (σ) 12 (pf)) 7 (upd (gB σ 7) (1) (gB σ 7 (2)))) 7 (upd (upd (gB σ 7) (1) (gB σ 7 (2))) (2) (upd (gB σ 7) (1) (gB σ 7 (2)) (3)))) (s18) (s19) (s20) (s23) (s24) (s35) := (o6 _ (by omega)).trans hM
        have hR : MdR D h4 m (uB (uB (uB (σ) 12 (pf)) 7 (upd (gB σ 7) (1) (gB σ 7 (2)))) 7 (upd (upd (gB σ 7) (1) (gB σ 7 (2))) (2) (upd (gB σ 7) (1) (gB σ 7 (2)) (3)))) (f21) (f22) := ⟨(o6 _ (by omega)).trans hR.1, e5, (o6 _ (by omega)).trans hR.2.2.1, (o6 _ (by omega)).trans hR.2.2.2.1, (o6 _ (by omega)).trans hR.2.2.2.2.1, (o6 _ (by omega)).trans hR.2.2.2.2.2.1, (o6 _ (by omega)).trans hR.2.2.2.2.2.2.1, (o6 _ (by omega)).trans hR.2.2.2.2.2.2.2.1, (o6 _ (by omega)).trans hR.2.2.2.2.2.2.2.2.1, (o6 _ (by omega)).trans hR.2.2.2.2.2.2.2.2.2.1, (o6 _ (by omega)).trans hR.2.2.2.2.2.2.2.2.2.2.1, (o6 _ (by omega)).trans hR.2.2.2.2.2.2.2.2.2.2.2.1, (o6 _ (by omega)).trans hR.2.2.2.2.2.2.2.2.2.2.2.2.1, (o6 _ (by omega)).trans hR.2.2.2.2.2.2.2.2.2.2.2.2.2.1, (o6 _ (by omega)).trans hR.2.2.2.2.2.2.2.2.2.2.2.2.2.2⟩
        have hO : ∀ q, (q < m ∨ m + 16 ≤ q) → h4 q = h q := fun q hq => (o6 q (by omega)).trans (hO q hq)
        refine g_iinc C (v := 3) 0 ([(4, .int (3)), (3, .int (ac)), (0, .ref (m)), (1, .int (nI (w))), (2, .int (1))]) dX12_goDay_117 rfl (by decide) (by decide) rfl rfl ?_
        refine g_goto C dX12_goDay_120 (tgt := 85) (by decide) ?_
        refine g_iload C 0 dX12_goDay_85 rfl rfl ?_
        refine g_iconst C (v := 4) dX12_goDay_87 (by decide) rfl ?_
        refine g_icmp_gt C dX12_goDay_88 (tgt := 123) (by decide) (pc' := 91) rfl (fun c88 => absurd c88 (by decide)) (fun _ => ?_)
        refine g_aload_n C 2 dX12_goDay_91 rfl rfl rfl ?_
        refine gf_12_13 C (hM) (v := .ref (m + 2)) rfl dX12_goDay_92 rfl ?_
        refine g_iload C 0 dX12_goDay_95 rfl rfl ?_
        refine g_iload C 0 dX12_goDay_97 rfl rfl ?_
        refine g_iconst C (v := 4) dX12_goDay_99 (by decide) rfl ?_
        refine g_icmp_ne C dX12_goDay_100 (tgt := 107) (by decide) (pc' := 103) rfl (fun _ => ?_) (fun c100 => absurd c100 (by decide))
        refine g_aload_n C 2 dX12_goDay_107 rfl rfl rfl ?_
        refine gf_12_13 C (hM) (v := .ref (m + 2)) rfl dX12_goDay_108 rfl ?_
        refine g_iload C 0 dX12_goDay_111 rfl rfl ?_
        refine g_iconst C (v := 1) dX12_goDay_113 (by decide) rfl ?_
        refine g_iadd C dX12_goDay_114 rfl ?_
        refine g_topi (y := 4) (by decide) ?_
        refine g_iald' C (hR.2.1) (j := 4) rfl (by omega) (by decide) dX12_goDay_115 rfl ?_
        refine g_iast' C (hR.2.1) (j := 3) rfl (by omega) (by decide) dX12_goDay_116 (pc' := 117) rfl (fun h7 e8 o9 => ?_)
        have hM : MdO h7 m (uB (uB (uB (uB (σ) 12 (pf)) 7 (upd (gB σ 7) (1) (gB σ 7 (2)))) 7 (upd (upd (gB σ 7) (1) (gB σ 7 (2))) (2) (upd (gB σ 7) (1) (gB σ 7 (2)) (3)))) 7 (upd (upd (upd (gB σ 7) (1) (gB σ 7 (2))) (2) (upd (gB σ 7) (1) (gB σ 7 (2)) (3))) (3) (upd (upd (gB σ 7) (1) (gB σ 7 (2))) (2) (upd (gB σ 7) (1) (gB σ 7 (2)) (3)) (4)))) (s18) (s19) (s20) (s23) (s24) (s35) := (o9 _ (by omega)).trans hM
        have hR : MdR D h7 m (uB (uB (uB (uB (σ) 12 (pf)) 7 (upd (gB σ 7) (1) (gB σ 7 (2)))) 7 (upd (upd (gB σ 7) (1) (gB σ 7 (2))) (2) (upd (gB σ 7) (1) (gB σ 7 (2)) (3)))) 7 (upd (upd (upd (gB σ 7) (1) (gB σ 7 (2))) (2) (upd (gB σ 7) (1) (gB σ 7 (2)) (3))) (3) (upd (upd (gB σ 7) (1) (gB σ 7 (2))) (2) (upd (gB σ 7) (1) (gB σ 7 (2)) (3)) (4)))) (f21) (f22) := ⟨(o9 _ (by omega)).trans hR.1, e8, (o9 _ (by omega)).trans hR.2.2.1, (o9 _ (by omega)).trans hR.2.2.2.1, (o9 _ (by omega)).trans hR.2.2.2.2.1, (o9 _ (by omega)).trans hR.2.2.2.2.2.1, (o9 _ (by omega)).trans hR.2.2.2.2.2.2.1, (o9 _ (by omega)).trans hR.2.2.2.2.2.2.2.1, (o9 _ (by omega)).trans hR.2.2.2.2.2.2.2.2.1, (o9 _ (by omega)).trans hR.2.2.2.2.2.2.2.2.2.1, (o9 _ (by omega)).trans hR.2.2.2.2.2.2.2.2.2.2.1, (o9 _ (by omega)).trans hR.2.2.2.2.2.2.2.2.2.2.2.1, (o9 _ (by omega)).trans hR.2.2.2.2.2.2.2.2.2.2.2.2.1, (o9 _ (by omega)).trans hR.2.2.2.2.2.2.2.2.2.2.2.2.2.1, (o9 _ (by omega)).trans hR.2.2.2.2.2.2.2.2.2.2.2.2.2.2⟩
        have hO : ∀ q, (q < m ∨ m + 16 ≤ q) → h7 q = h q := fun q hq => (o9 q (by omega)).trans (hO q hq)
        refine g_iinc C (v := 4) 0 ([(4, .int (4)), (3, .int (ac)), (0, .ref (m)), (1, .int (nI (w))), (2, .int (1))]) dX12_goDay_117 rfl (by decide) (by decide) rfl rfl ?_
        refine g_goto C dX12_goDay_120 (tgt := 85) (by decide) ?_
        refine g_iload C 0 dX12_goDay_85 rfl rfl ?_
        refine g_iconst C (v := 4) dX12_goDay_87 (by decide) rfl ?_
        refine g_icmp_gt C dX12_goDay_88 (tgt := 123) (by decide) (pc' := 91) rfl (fun c88 => absurd c88 (by decide)) (fun _ => ?_)
        refine g_aload_n C 2 dX12_goDay_91 rfl rfl rfl ?_
        refine gf_12_13 C (hM) (v := .ref (m + 2)) rfl dX12_goDay_92 rfl ?_
        refine g_iload C 0 dX12_goDay_95 rfl rfl ?_
        refine g_iload C 0 dX12_goDay_97 rfl rfl ?_
        refine g_iconst C (v := 4) dX12_goDay_99 (by decide) rfl ?_
        refine g_icmp_ne C dX12_goDay_100 (tgt := 107) (by decide) (pc' := 103) rfl (fun c100 => absurd (by decide) c100) (fun _ => ?_)
        refine g_iconst C (v := -1) dX12_goDay_103 (by decide) rfl ?_
        refine g_goto C dX12_goDay_104 (tgt := 116) (by decide) ?_
        refine g_iast' C (hR.2.1) (j := 4) rfl (by omega) (by decide) dX12_goDay_116 (pc' := 117) rfl (fun h10 e11 o12 => ?_)
        have hM : MdO h10 m (uB (uB (uB (uB (uB (σ) 12 (pf)) 7 (upd (gB σ 7) (1) (gB σ 7 (2)))) 7 (upd (upd (gB σ 7) (1) (gB σ 7 (2))) (2) (upd (gB σ 7) (1) (gB σ 7 (2)) (3)))) 7 (upd (upd (upd (gB σ 7) (1) (gB σ 7 (2))) (2) (upd (gB σ 7) (1) (gB σ 7 (2)) (3))) (3) (upd (upd (gB σ 7) (1) (gB σ 7 (2))) (2) (upd (gB σ 7) (1) (gB σ 7 (2)) (3)) (4)))) 7 (upd (upd (upd (upd (gB σ 7) (1) (gB σ 7 (2))) (2) (upd (gB σ 7) (1) (gB σ 7 (2)) (3))) (3) (upd (upd (gB σ 7) (1) (gB σ 7 (2))) (2) (upd (gB σ 7) (1) (gB σ 7 (2)) (3)) (4))) (4) ((-1)))) (s18) (s19) (s20) (s23) (s24) (s35) := (o12 _ (by omega)).trans hM
        have hR : MdR D h10 m (uB (uB (uB (uB (uB (σ) 12 (pf)) 7 (upd (gB σ 7) (1) (gB σ 7 (2)))) 7 (upd (upd (gB σ 7) (1) (gB σ 7 (2))) (2) (upd (gB σ 7) (1) (gB σ 7 (2)) (3)))) 7 (upd (upd (upd (gB σ 7) (1) (gB σ 7 (2))) (2) (upd (gB σ 7) (1) (gB σ 7 (2)) (3))) (3) (upd (upd (gB σ 7) (1) (gB σ 7 (2))) (2) (upd (gB σ 7) (1) (gB σ 7 (2)) (3)) (4)))) 7 (upd (upd (upd (upd (gB σ 7) (1) (gB σ 7 (2))) (2) (upd (gB σ 7) (1) (gB σ 7 (2)) (3))) (3) (upd (upd (gB σ 7) (1) (gB σ 7 (2))) (2) (upd (gB σ 7) (1) (gB σ 7 (2)) (3)) (4))) (4) ((-1)))) (f21) (f22) := ⟨(o12 _ (by omega)).trans hR.1, e11, (o12 _ (by omega)).trans hR.2.2.1, (o12 _ (by omega)).trans hR.2.2.2.1, (o12 _ (by omega)).trans hR.2.2.2.2.1, (o12 _ (by omega)).trans hR.2.2.2.2.2.1, (o12 _ (by omega)).trans hR.2.2.2.2.2.2.1, (o12 _ (by omega)).trans hR.2.2.2.2.2.2.2.1, (o12 _ (by omega)).trans hR.2.2.2.2.2.2.2.2.1, (o12 _ (by omega)).trans hR.2.2.2.2.2.2.2.2.2.1, (o12 _ (by omega)).trans hR.2.2.2.2.2.2.2.2.2.2.1, (o12 _ (by omega)).trans hR.2.2.2.2.2.2.2.2.2.2.2.1, (o12 _ (by omega)).trans hR.2.2.2.2.2.2.2.2.2.2.2.2.1, (o12 _ (by omega)).trans hR.2.2.2.2.2.2.2.2.2.2.2.2.2.1, (o12 _ (by omega)).trans hR.2.2.2.2.2.2.2.2.2.2.2.2.2.2⟩
        have hO : ∀ q, (q < m ∨ m + 16 ≤ q) → h10 q = h q := fun q hq => (o12 q (by omega)).trans (hO q hq)
        refine g_iinc C (v := 5) 0 ([(4, .int (5)), (3, .int (ac)), (0, .ref (m)), (1, .int (nI (w))), (2, .int (1))]) dX12_goDay_117 rfl (by decide) (by decide) rfl rfl ?_
        refine g_goto C dX12_goDay_120 (tgt := 85) (by decide) ?_
        refine g_iload C 0 dX12_goDay_85 rfl rfl ?_
        refine g_iconst C (v := 4) dX12_goDay_87 (by decide) rfl ?_
        refine g_icmp_gt C dX12_goDay_88 (tgt := 123) (by decide) (pc' := 91) rfl (fun _ => ?_) (fun c88 => absurd (by decide) c88)
        refine g_aload_n C 2 dX12_goDay_123 rfl rfl rfl ?_
        refine g_iload_n C 3 dX12_goDay_124 rfl rfl rfl ?_
        refine pf_12_92 C (hM) (v := .int (nI (w))) rfl rfl (Nat.le_of_ble_eq_true rfl) dX12_goDay_125 (pc' := 128) rfl (fun h13 e14 o15 => ?_)
        have hM : MdO h13 m (uN (uB (uB (uB (uB (uB (σ) 12 (pf)) 7 (upd (gB σ 7) (1) (gB σ 7 (2)))) 7 (upd (upd (gB σ 7) (1) (gB σ 7 (2))) (2) (upd (gB σ 7) (1) (gB σ 7 (2)) (3)))) 7 (upd (upd (upd (gB σ 7) (1) (gB σ 7 (2))) (2) (upd (gB σ 7) (1) (gB σ 7 (2)) (3))) (3) (upd (upd (gB σ 7) (1) (gB σ 7 (2))) (2) (upd (gB σ 7) (1) (gB σ 7 (2)) (3)) (4)))) 7 (upd (upd (upd (upd (gB σ 7) (1) (gB σ 7 (2))) (2) (upd (gB σ 7) (1) (gB σ 7 (2)) (3))) (3) (upd (upd (gB σ 7) (1) (gB σ 7 (2))) (2) (upd (gB σ 7) (1) (gB σ 7 (2)) (3)) (4))) (4) ((-1)))) 6 (w)) (s18) (s19) (s20) (s23) (s24) (s35) := e14
        have hR : MdR D h13 m (uN (uB (uB (uB (uB (uB (σ) 12 (pf)) 7 (upd (gB σ 7) (1) (gB σ 7 (2)))) 7 (upd (upd (gB σ 7) (1) (gB σ 7 (2))) (2) (upd (gB σ 7) (1) (gB σ 7 (2)) (3)))) 7 (upd (upd (upd (gB σ 7) (1) (gB σ 7 (2))) (2) (upd (gB σ 7) (1) (gB σ 7 (2)) (3))) (3) (upd (upd (gB σ 7) (1) (gB σ 7 (2))) (2) (upd (gB σ 7) (1) (gB σ 7 (2)) (3)) (4)))) 7 (upd (upd (upd (upd (gB σ 7) (1) (gB σ 7 (2))) (2) (upd (gB σ 7) (1) (gB σ 7 (2)) (3))) (3) (upd (upd (gB σ 7) (1) (gB σ 7 (2))) (2) (upd (gB σ 7) (1) (gB σ 7 (2)) (3)) (4))) (4) ((-1)))) 6 (w)) (f21) (f22) := hR.fr (fun q g1 g2 => o15 q (by omega))
        have hO : ∀ q, (q < m ∨ m + 16 ≤ q) → h13 q = h q := fun q hq => (o15 q (by omega)).trans (hO q hq)
        refine g_aload_n C 2 dX12_goDay_128 rfl rfl rfl ?_
        refine g_dup C rfl dX12_goDay_129 rfl ?_
        refine gf_12_89 C (hM) (v := .int (gI σ 5)) rfl dX12_goDay_130 rfl ?_
        refine g_iconst C (v := 1) dX12_goDay_133 (by decide) rfl ?_
        refine g_iadd C dX12_goDay_134 rfl ?_
        refine pf_12_89 C (hM) (v := .int ((gI σ 5) + (1))) rfl rfl (Nat.le_of_ble_eq_true rfl) dX12_goDay_135 (pc' := 138) rfl (fun h16 e17 o18 => ?_)
        have hM : MdO h16 m (uI (uN (uB (uB (uB (uB (uB (σ) 12 (pf)) 7 (upd (gB σ 7) (1) (gB σ 7 (2)))) 7 (upd (upd (gB σ 7) (1) (gB σ 7 (2))) (2) (upd (gB σ 7) (1) (gB σ 7 (2)) (3)))) 7 (upd (upd (upd (gB σ 7) (1) (gB σ 7 (2))) (2) (upd (gB σ 7) (1) (gB σ 7 (2)) (3))) (3) (upd (upd (gB σ 7) (1) (gB σ 7 (2))) (2) (upd (gB σ 7) (1) (gB σ 7 (2)) (3)) (4)))) 7 (upd (upd (upd (upd (gB σ 7) (1) (gB σ 7 (2))) (2) (upd (gB σ 7) (1) (gB σ 7 (2)) (3))) (3) (upd (upd (gB σ 7) (1) (gB σ 7 (2))) (2) (upd (gB σ 7) (1) (gB σ 7 (2)) (3)) (4))) (4) ((-1)))) 6 (w)) 5 ((gI σ 5) + (1))) (s18) (s19) (s20) (s23) (s24) (s35) := e17
        have hR : MdR D h16 m (uI (uN (uB (uB (uB (uB (uB (σ) 12 (pf)) 7 (upd (gB σ 7) (1) (gB σ 7 (2)))) 7 (upd (upd (gB σ 7) (1) (gB σ 7 (2))) (2) (upd (gB σ 7) (1) (gB σ 7 (2)) (3)))) 7 (upd (upd (upd (gB σ 7) (1) (gB σ 7 (2))) (2) (upd (gB σ 7) (1) (gB σ 7 (2)) (3))) (3) (upd (upd (gB σ 7) (1) (gB σ 7 (2))) (2) (upd (gB σ 7) (1) (gB σ 7 (2)) (3)) (4)))) 7 (upd (upd (upd (upd (gB σ 7) (1) (gB σ 7 (2))) (2) (upd (gB σ 7) (1) (gB σ 7 (2)) (3))) (3) (upd (upd (gB σ 7) (1) (gB σ 7 (2))) (2) (upd (gB σ 7) (1) (gB σ 7 (2)) (3)) (4))) (4) ((-1)))) 6 (w)) 5 ((gI σ 5) + (1))) (f21) (f22) := hR.fr (fun q g1 g2 => o18 q (by omega))
        have hO : ∀ q, (q < m ∨ m + 16 ≤ q) → h16 q = h q := fun q hq => (o18 q (by omega)).trans (hO q hq)
        refine g_iload_n C 1 dX12_goDay_138 rfl rfl rfl ?_
        refine g_canon C ((show h16 (m + 2) = some (cI D 5 (upd (upd (upd (upd (gB σ 7) (1) (gB σ 7 (2))) (2) (upd (gB σ 7) (1) (gB σ 7 (2)) (3))) (3) (upd (upd (gB σ 7) (1) (gB σ 7 (2))) (2) (upd (gB σ 7) (1) (gB σ 7 (2)) (3)) (4))) (4) ((-1)))) from hR.2.1)) (g := shR (gB σ 7)) (shR_of (by simp [upd]) (by simp [upd]) (by simp [upd]) (by simp [upd]) (by simp [upd])) (fun h19 e20 o21 => ?_)
        have hM : MdO h19 m ((uI (uN (uB (uB σ 12 pf) 7 (shR (gB σ 7))) 6 w) 5 (gI σ 5 + 1))) (s18) (s19) (s20) (s23) (s24) (s35) := (o21 _ (by omega)).trans hM
        have hR : MdR D h19 m ((uI (uN (uB (uB σ 12 pf) 7 (shR (gB σ 7))) 6 w) 5 (gI σ 5 + 1))) (f21) (f22) := ⟨(o21 _ (by omega)).trans hR.1, e20, (o21 _ (by omega)).trans hR.2.2.1, (o21 _ (by omega)).trans hR.2.2.2.1, (o21 _ (by omega)).trans hR.2.2.2.2.1, (o21 _ (by omega)).trans hR.2.2.2.2.2.1, (o21 _ (by omega)).trans hR.2.2.2.2.2.2.1, (o21 _ (by omega)).trans hR.2.2.2.2.2.2.2.1, (o21 _ (by omega)).trans hR.2.2.2.2.2.2.2.2.1, (o21 _ (by omega)).trans hR.2.2.2.2.2.2.2.2.2.1, (o21 _ (by omega)).trans hR.2.2.2.2.2.2.2.2.2.2.1, (o21 _ (by omega)).trans hR.2.2.2.2.2.2.2.2.2.2.2.1, (o21 _ (by omega)).trans hR.2.2.2.2.2.2.2.2.2.2.2.2.1, (o21 _ (by omega)).trans hR.2.2.2.2.2.2.2.2.2.2.2.2.2.1, (o21 _ (by omega)).trans hR.2.2.2.2.2.2.2.2.2.2.2.2.2.2⟩
        have hO : ∀ q, (q < m ∨ m + 16 ≤ q) → h19 q = h q := fun q hq => (o21 q (by omega)).trans (hO q hq)
        have hpE : p = gN σ 8 := by omega
        subst hpE
        subst hpf
        have hM : MdO h19 m (dyM σ w) s18 s19 s20 s23 s24 s35 := hM
        have hR : MdR D h19 m (dyM σ w) f21 f22 := hR
        exact ret _ _ _ _ dX12_goDay_139 rfl (⟨hac, hM, hR, hO⟩)
      · intro c11
        replace c11 := (not_congr (nI_leI (a := gN σ 8) (b := p) (by omega) (by omega))).mp c11
        refine g_aload_n C 2 dX12_goDay_14 rfl rfl rfl ?_
        refine g_iload C 0 dX12_goDay_15 rfl rfl ?_
        refine g_callVi C (As := [.int (nI (p))]) (q := (RX12, TX12, 36)) (k_X12_covers l D b z hM hR h6 (p := p) (by omega)) hw_12_122 (hM) rfl (by decide) rfl rfl (Nat.le_of_ble_eq_true rfl) ⟨Nat.zero_le _, Nat.zero_le _⟩ dX12_goDay_17 (pc' := 20) rfl ?_
        rintro r22 h9 ⟨⟨er, hp17⟩ | ⟨er, hp17⟩, e9⟩
        · subst h9; subst er
          rw [mcS_12] at hp17
          refine g_if_eq C dX12_goDay_20 (tgt := 33) (by decide) (pc' := 23) rfl (fun c20 => absurd c20 (by decide)) (fun _ => ?_)
          refine g_aload_n C 2 dX12_goDay_23 rfl rfl rfl ?_
          refine gf_12_19 C (hM) (v := .ref (m + 4)) rfl dX12_goDay_24 rfl ?_
          refine g_iload C 0 dX12_goDay_27 rfl rfl ?_
          refine g_iald' C (hR.2.2.2.1) (j := p) rfl (by omega) (by decide) dX12_goDay_29 rfl ?_
          refine g_goto C dX12_goDay_30 (tgt := 49) (by decide) ?_
          refine g_topi (y := mdV σ w p) (mdV_t hp17) ?_
          refine g_istore C ([(5, .int (mdV σ w p)), (4, .int (nI (p))), (3, .int (ac)), (0, .ref (m)), (1, .int (nI (w))), (2, .int (1))]) dX12_goDay_49 (by decide) rfl rfl ?_
          refine g_aload_n C 3 dX12_goDay_51 rfl rfl rfl ?_
          refine gf_12_25 C (hM) (v := .ref (m + 6)) rfl dX12_goDay_52 rfl ?_
          refine g_iload C 1 dX12_goDay_55 rfl rfl ?_
          refine g_dup2 C rfl rfl dX12_goDay_57 rfl ?_
          refine g_iald' C (hR.2.2.2.2.2.1) (j := p) rfl (by omega) (by decide) dX12_goDay_58 rfl ?_
          refine g_iload_n C 5 dX12_goDay_59 rfl rfl rfl ?_
          refine g_if_eq C dX12_goDay_60 (tgt := 68) (by decide) (pc' := 63) rfl (fun c60 => absurd c60 (by decide)) (fun _ => ?_)
          refine g_iload C 0 dX12_goDay_63 rfl rfl ?_
          refine g_goto C dX12_goDay_65 (tgt := 69) (by decide) ?_
          refine g_iadd C dX12_goDay_69 rfl ?_
          refine g_iast' C (hR.2.2.2.2.2.1) (j := p) rfl (by omega) (by decide) dX12_goDay_70 (pc' := 71) rfl (fun h23 e24 o25 => ?_)
          have hM : MdO h23 m (uB (uB (σ) 12 (pf)) 12 (upd (pf) (p) ((pf (p)) + (mdV σ w p)))) (s18) (s19) (s20) (s23) (s24) (s35) := (o25 _ (by omega)).trans hM
          have hR : MdR D h23 m (uB (uB (σ) 12 (pf)) 12 (upd (pf) (p) ((pf (p)) + (mdV σ w p)))) (f21) (f22) := ⟨(o25 _ (by omega)).trans hR.1, (o25 _ (by omega)).trans hR.2.1, (o25 _ (by omega)).trans hR.2.2.1, (o25 _ (by omega)).trans hR.2.2.2.1, (o25 _ (by omega)).trans hR.2.2.2.2.1, e24, (o25 _ (by omega)).trans hR.2.2.2.2.2.2.1, (o25 _ (by omega)).trans hR.2.2.2.2.2.2.2.1, (o25 _ (by omega)).trans hR.2.2.2.2.2.2.2.2.1, (o25 _ (by omega)).trans hR.2.2.2.2.2.2.2.2.2.1, (o25 _ (by omega)).trans hR.2.2.2.2.2.2.2.2.2.2.1, (o25 _ (by omega)).trans hR.2.2.2.2.2.2.2.2.2.2.2.1, (o25 _ (by omega)).trans hR.2.2.2.2.2.2.2.2.2.2.2.2.1, (o25 _ (by omega)).trans hR.2.2.2.2.2.2.2.2.2.2.2.2.2.1, (o25 _ (by omega)).trans hR.2.2.2.2.2.2.2.2.2.2.2.2.2.2⟩
          have hO : ∀ q, (q < m ∨ m + 16 ≤ q) → h23 q = h q := fun q hq => (o25 q (by omega)).trans (hO q hq)
          refine g_iload_n C 2 dX12_goDay_71 rfl rfl rfl ?_
          refine g_iload C 0 dX12_goDay_72 rfl rfl ?_
          refine g_iadd C dX12_goDay_74 rfl ?_
          refine g_istore_n C ([(3, .int ((ac) + (mdV σ w p))), (5, .int (mdV σ w p)), (4, .int (nI (p))), (0, .ref (m)), (1, .int (nI (w))), (2, .int (1))]) dX12_goDay_75 rfl (by decide) rfl rfl ?_
          refine g_iinc C (v := nI (p + 1)) 2 ([(4, .int (nI (p + 1))), (3, .int ((ac) + (mdV σ w p))), (5, .int (mdV σ w p)), (0, .ref (m)), (1, .int (nI (w))), (2, .int (1))]) dX12_goDay_76 rfl (nI_1 _) (by decide) rfl rfl ?_
          refine g_goto C dX12_goDay_79 (tgt := 5) (by decide) ?_
          have hM : MdO h23 m (uB σ 12 (upd (pf) (p) (pf p + mdV σ w p))) s18 s19 s20 s23 s24 s35 := hM
          have hR : MdR D h23 m (uB σ 12 (upd (pf) (p) (pf p + mdV σ w p))) f21 f22 := hR
          refine q_lsub [0, 1, 3, 4, 5] (L' := [(4, .int (nI (p + 1))), (3, .int ((ac) + (mdV σ w p))), (0, .ref (m)), (1, .int (nI (w))), (2, .int (1))]) rfl ?_
          exact ih5 (p + 1) (ac + mdV σ w p) (h23) (upd (pf) (p) (pf p + mdV σ w p)) (by omega) (by omega) (by rw [hpf]; exact pdM_s σ w p) (hM) (hR) (hO) (by simp only [saM]; rw [hac])
        · subst h9; subst er
          rw [mcS_12] at hp17
          refine g_if_eq C dX12_goDay_20 (tgt := 33) (by decide) (pc' := 23) rfl (fun _ => ?_) (fun c20 => absurd (by decide) c20)
          refine g_iload_n C 3 dX12_goDay_33 rfl rfl rfl ?_
          refine g_iconst C (v := 1) dX12_goDay_34 (by decide) rfl ?_
          refine g_icmp_ne C dX12_goDay_35 (tgt := 48) (by decide) (pc' := 38) rfl ?_ ?_
          · intro c35
            replace c35 := (not_congr (nI_eq (a := w) (b := 1) (by omega) (by omega))).mp c35
            refine g_iconst C (v := 0) dX12_goDay_48 (by decide) rfl ?_
            refine g_topi (y := mdV σ w p) (mdV_f hp17 hw c35) ?_
            refine g_istore C ([(5, .int (mdV σ w p)), (4, .int (nI (p))), (3, .int (ac)), (0, .ref (m)), (1, .int (nI (w))), (2, .int (1))]) dX12_goDay_49 (by decide) rfl rfl ?_
            refine g_aload_n C 3 dX12_goDay_51 rfl rfl rfl ?_
            refine gf_12_25 C (hM) (v := .ref (m + 6)) rfl dX12_goDay_52 rfl ?_
            refine g_iload C 1 dX12_goDay_55 rfl rfl ?_
            refine g_dup2 C rfl rfl dX12_goDay_57 rfl ?_
            refine g_iald' C (hR.2.2.2.2.2.1) (j := p) rfl (by omega) (by decide) dX12_goDay_58 rfl ?_
            refine g_iload_n C 5 dX12_goDay_59 rfl rfl rfl ?_
            refine g_if_eq C dX12_goDay_60 (tgt := 68) (by decide) (pc' := 63) rfl (fun c60 => absurd c60 (by decide)) (fun _ => ?_)
            refine g_iload C 0 dX12_goDay_63 rfl rfl ?_
            refine g_goto C dX12_goDay_65 (tgt := 69) (by decide) ?_
            refine g_iadd C dX12_goDay_69 rfl ?_
            refine g_iast' C (hR.2.2.2.2.2.1) (j := p) rfl (by omega) (by decide) dX12_goDay_70 (pc' := 71) rfl (fun h26 e27 o28 => ?_)
            have hM : MdO h26 m (uB (uB (σ) 12 (pf)) 12 (upd (pf) (p) ((pf (p)) + (mdV σ w p)))) (s18) (s19) (s20) (s23) (s24) (s35) := (o28 _ (by omega)).trans hM
            have hR : MdR D h26 m (uB (uB (σ) 12 (pf)) 12 (upd (pf) (p) ((pf (p)) + (mdV σ w p)))) (f21) (f22) := ⟨(o28 _ (by omega)).trans hR.1, (o28 _ (by omega)).trans hR.2.1, (o28 _ (by omega)).trans hR.2.2.1, (o28 _ (by omega)).trans hR.2.2.2.1, (o28 _ (by omega)).trans hR.2.2.2.2.1, e27, (o28 _ (by omega)).trans hR.2.2.2.2.2.2.1, (o28 _ (by omega)).trans hR.2.2.2.2.2.2.2.1, (o28 _ (by omega)).trans hR.2.2.2.2.2.2.2.2.1, (o28 _ (by omega)).trans hR.2.2.2.2.2.2.2.2.2.1, (o28 _ (by omega)).trans hR.2.2.2.2.2.2.2.2.2.2.1, (o28 _ (by omega)).trans hR.2.2.2.2.2.2.2.2.2.2.2.1, (o28 _ (by omega)).trans hR.2.2.2.2.2.2.2.2.2.2.2.2.1, (o28 _ (by omega)).trans hR.2.2.2.2.2.2.2.2.2.2.2.2.2.1, (o28 _ (by omega)).trans hR.2.2.2.2.2.2.2.2.2.2.2.2.2.2⟩
            have hO : ∀ q, (q < m ∨ m + 16 ≤ q) → h26 q = h q := fun q hq => (o28 q (by omega)).trans (hO q hq)
            refine g_iload_n C 2 dX12_goDay_71 rfl rfl rfl ?_
            refine g_iload C 0 dX12_goDay_72 rfl rfl ?_
            refine g_iadd C dX12_goDay_74 rfl ?_
            refine g_istore_n C ([(3, .int ((ac) + (mdV σ w p))), (5, .int (mdV σ w p)), (4, .int (nI (p))), (0, .ref (m)), (1, .int (nI (w))), (2, .int (1))]) dX12_goDay_75 rfl (by decide) rfl rfl ?_
            refine g_iinc C (v := nI (p + 1)) 2 ([(4, .int (nI (p + 1))), (3, .int ((ac) + (mdV σ w p))), (5, .int (mdV σ w p)), (0, .ref (m)), (1, .int (nI (w))), (2, .int (1))]) dX12_goDay_76 rfl (nI_1 _) (by decide) rfl rfl ?_
            refine g_goto C dX12_goDay_79 (tgt := 5) (by decide) ?_
            have hM : MdO h26 m (uB σ 12 (upd (pf) (p) (pf p + mdV σ w p))) s18 s19 s20 s23 s24 s35 := hM
            have hR : MdR D h26 m (uB σ 12 (upd (pf) (p) (pf p + mdV σ w p))) f21 f22 := hR
            refine q_lsub [0, 1, 3, 4, 5] (L' := [(4, .int (nI (p + 1))), (3, .int ((ac) + (mdV σ w p))), (0, .ref (m)), (1, .int (nI (w))), (2, .int (1))]) rfl ?_
            exact ih5 (p + 1) (ac + mdV σ w p) (h26) (upd (pf) (p) (pf p + mdV σ w p)) (by omega) (by omega) (by rw [hpf]; exact pdM_s σ w p) (hM) (hR) (hO) (by simp only [saM]; rw [hac])
          · intro c35
            replace c35 := (nI_eq (a := w) (b := 1) (by omega) (by omega)).mp c35
            refine g_aload_n C 2 dX12_goDay_38 rfl rfl rfl ?_
            refine gf_12_22 C (hM) (v := .ref (m + 5)) rfl dX12_goDay_39 rfl ?_
            refine g_iload C 0 dX12_goDay_42 rfl rfl ?_
            refine g_iald' C (hR.2.2.2.2.1) (j := p) rfl (by omega) (by decide) dX12_goDay_44 rfl ?_
            refine g_goto C dX12_goDay_45 (tgt := 49) (by decide) ?_
            refine g_topi (y := mdV σ w p) (mdV_w hp17 c35) ?_
            refine g_istore C ([(5, .int (mdV σ w p)), (4, .int (nI (p))), (3, .int (ac)), (0, .ref (m)), (1, .int (nI (w))), (2, .int (1))]) dX12_goDay_49 (by decide) rfl rfl ?_
            refine g_aload_n C 3 dX12_goDay_51 rfl rfl rfl ?_
            refine gf_12_25 C (hM) (v := .ref (m + 6)) rfl dX12_goDay_52 rfl ?_
            refine g_iload C 1 dX12_goDay_55 rfl rfl ?_
            refine g_dup2 C rfl rfl dX12_goDay_57 rfl ?_
            refine g_iald' C (hR.2.2.2.2.2.1) (j := p) rfl (by omega) (by decide) dX12_goDay_58 rfl ?_
            refine g_iload_n C 5 dX12_goDay_59 rfl rfl rfl ?_
            refine g_if_eq C dX12_goDay_60 (tgt := 68) (by decide) (pc' := 63) rfl (fun c60 => absurd c60 (by decide)) (fun _ => ?_)
            refine g_iload C 0 dX12_goDay_63 rfl rfl ?_
            refine g_goto C dX12_goDay_65 (tgt := 69) (by decide) ?_
            refine g_iadd C dX12_goDay_69 rfl ?_
            refine g_iast' C (hR.2.2.2.2.2.1) (j := p) rfl (by omega) (by decide) dX12_goDay_70 (pc' := 71) rfl (fun h29 e30 o31 => ?_)
            have hM : MdO h29 m (uB (uB (σ) 12 (pf)) 12 (upd (pf) (p) ((pf (p)) + (mdV σ w p)))) (s18) (s19) (s20) (s23) (s24) (s35) := (o31 _ (by omega)).trans hM
            have hR : MdR D h29 m (uB (uB (σ) 12 (pf)) 12 (upd (pf) (p) ((pf (p)) + (mdV σ w p)))) (f21) (f22) := ⟨(o31 _ (by omega)).trans hR.1, (o31 _ (by omega)).trans hR.2.1, (o31 _ (by omega)).trans hR.2.2.1, (o31 _ (by omega)).trans hR.2.2.2.1, (o31 _ (by omega)).trans hR.2.2.2.2.1, e30, (o31 _ (by omega)).trans hR.2.2.2.2.2.2.1, (o31 _ (by omega)).trans hR.2.2.2.2.2.2.2.1, (o31 _ (by omega)).trans hR.2.2.2.2.2.2.2.2.1, (o31 _ (by omega)).trans hR.2.2.2.2.2.2.2.2.2.1, (o31 _ (by omega)).trans hR.2.2.2.2.2.2.2.2.2.2.1, (o31 _ (by omega)).trans hR.2.2.2.2.2.2.2.2.2.2.2.1, (o31 _ (by omega)).trans hR.2.2.2.2.2.2.2.2.2.2.2.2.1, (o31 _ (by omega)).trans hR.2.2.2.2.2.2.2.2.2.2.2.2.2.1, (o31 _ (by omega)).trans hR.2.2.2.2.2.2.2.2.2.2.2.2.2.2⟩
            have hO : ∀ q, (q < m ∨ m + 16 ≤ q) → h29 q = h q := fun q hq => (o31 q (by omega)).trans (hO q hq)
            refine g_iload_n C 2 dX12_goDay_71 rfl rfl rfl ?_
            refine g_iload C 0 dX12_goDay_72 rfl rfl ?_
            refine g_iadd C dX12_goDay_74 rfl ?_
            refine g_istore_n C ([(3, .int ((ac) + (mdV σ w p))), (5, .int (mdV σ w p)), (4, .int (nI (p))), (0, .ref (m)), (1, .int (nI (w))), (2, .int (1))]) dX12_goDay_75 rfl (by decide) rfl rfl ?_
            refine g_iinc C (v := nI (p + 1)) 2 ([(4, .int (nI (p + 1))), (3, .int ((ac) + (mdV σ w p))), (5, .int (mdV σ w p)), (0, .ref (m)), (1, .int (nI (w))), (2, .int (1))]) dX12_goDay_76 rfl (nI_1 _) (by decide) rfl rfl ?_
            refine g_goto C dX12_goDay_79 (tgt := 5) (by decide) ?_
            have hM : MdO h29 m (uB σ 12 (upd (pf) (p) (pf p + mdV σ w p))) s18 s19 s20 s23 s24 s35 := hM
            have hR : MdR D h29 m (uB σ 12 (upd (pf) (p) (pf p + mdV σ w p))) f21 f22 := hR
            refine q_lsub [0, 1, 3, 4, 5] (L' := [(4, .int (nI (p + 1))), (3, .int ((ac) + (mdV σ w p))), (0, .ref (m)), (1, .int (nI (w))), (2, .int (1))]) rfl ?_
            exact ih5 (p + 1) (ac + mdV σ w p) (h29) (upd (pf) (p) (pf p + mdV σ w p)) (by omega) (by omega) (by rw [hpf]; exact pdM_s σ w p) (hM) (hR) (hO) (by simp only [saM]; rw [hac])
  have hM : MdO h m (uB σ 12 (gB σ 12)) s18 s19 s20 s23 s24 s35 := hM
  have hR : MdR D h m (uB σ 12 (gB σ 12)) f21 f22 := hR
  exact loop5 _ (0) (0) (h) (gB σ 12) (Nat.lt_succ_self _) (Nat.zero_le _) ((pdM_0 σ w).symm) (hM) (hR) (hO) (rfl)
set_option maxHeartbeats 4000000 in
set_option maxRecDepth 100000 in
theorem k0_X12_goDay (l : Launch) (D : va_G) (b z : Nat) {h : qH} {m : Nat} {σ : sg} {s18 s35 : Int64} {s19 s20 s23 s24 : Int32} {f21 f22 : Nat → Int32} (hM : MdO h m σ s18 s19 s20 s23 s24 s35) (hR : MdR D h m σ f21 f22) (h6 : gN σ 6 < 3) (h8 : gN σ 8 ≤ 4) {w : Nat} (hw : w < 3) : qMi l D b yX12_goDay cX12_goDay 6 .int 4 96 [.ref (m), .int (nI (w)), .int (0)] h z (fun r0 h' => r0 = saM σ w (gN σ 8) ∧ MdO h' m (dyM0 σ w) s18 s19 s20 s23 s24 s35 ∧ MdR D h' m (dyM0 σ w) f21 f22 ∧ ∀ q, (q < m ∨ m + 16 ≤ q) → h' q = h q) := by
  refine q_i (L := [(0, .ref (m)), (1, .int (nI (w))), (2, .int (0))]) (own := RX12) (by decide) rfl (Nat.le_of_ble_eq_true rfl) rfl ?_
  intro X C ret
  have hO : ∀ q, (q < m ∨ m + 16 ≤ q) → h q = h q := fun _ _ => rfl
  refine g_iconst C (v := 0) dX12_goDay_0 (by decide) rfl ?_
  refine g_istore_n C ([(3, .int (0)), (0, .ref (m)), (1, .int (nI (w))), (2, .int (0))]) dX12_goDay_1 rfl (by decide) rfl rfl ?_
  refine g_iconst C (v := 0) dX12_goDay_2 (by decide) rfl ?_
  refine g_istore C ([(4, .int (0)), (3, .int (0)), (0, .ref (m)), (1, .int (nI (w))), (2, .int (0))]) dX12_goDay_3 (by decide) rfl rfl ?_
  have loop5 : ∀ (N : Nat) (p : Nat) (ac : Int32) (h1 : qH) (pf : Nat → Int32), 5 - p < N → (p ≤ gN σ 8) → (pf = gB σ 12) → (MdO h1 m (uB σ 12 pf) s18 s19 s20 s23 s24 s35) → (MdR D h1 m (uB σ 12 pf) f21 f22) → (∀ q, (q < m ∨ m + 16 ≤ q) → h1 q = h q) → (ac = saM σ w p) → qG X 0 0 z h1 5 [(4, .int (nI (p))), (3, .int (ac)), (0, .ref (m)), (1, .int (nI (w))), (2, .int (0))] [] := by
    intro N
    induction N with
    | zero => intro p ac h1 pf hm; exact absurd hm (Nat.not_lt_zero _)
    | succ N ih5 =>
      intro p ac h1 pf hm hp hpf hM hR hO hac
      refine g_iload C 0 dX12_goDay_5 rfl rfl ?_
      refine g_aload_n C 2 dX12_goDay_7 rfl rfl rfl ?_
      refine gf_12_95 C (hM) (v := .int (nI (gN σ 8))) rfl dX12_goDay_8 rfl ?_
      refine g_icmp_ge C dX12_goDay_11 (tgt := 82) (by decide) (pc' := 14) rfl ?_ ?_
      · intro c11
        replace c11 := (nI_leI (a := gN σ 8) (b := p) (by omega) (by omega)).mp c11
        refine g_iconst C (v := 1) dX12_goDay_82 (by decide) rfl ?_
        refine g_istore C ([(4, .int (1)), (3, .int (ac)), (0, .ref (m)), (1, .int (nI (w))), (2, .int (0))]) dX12_goDay_83 (by decide) rfl rfl ?_
        refine g_iload C 0 dX12_goDay_85 rfl rfl ?_
        refine g_iconst C (v := 4) dX12_goDay_87 (by decide) rfl ?_
        refine g_icmp_gt C dX12_goDay_88 (tgt := 123) (by decide) (pc' := 91) rfl (fun c88 => absurd c88 (by decide)) (fun _ => ?_)
        refine g_aload_n C 2 dX12_goDay_91 rfl rfl rfl ?_
        refine gf_12_13 C (hM) (v := .ref (m + 2)) rfl dX12_goDay_92 rfl ?_
        refine g_iload C 0 dX12_goDay_95 rfl rfl ?_
        refine g_iload C 0 dX12_goDay_97 rfl rfl ?_
        refine g_iconst C (v := 4) dX12_goDay_99 (by decide) rfl ?_
        refine g_icmp_ne C dX12_goDay_100 (tgt := 107) (by decide) (pc' := 103) rfl (fun _ => ?_) (fun c100 => absurd c100 (by decide))
        refine g_aload_n C 2 dX12_goDay_107 rfl rfl rfl ?_
        refine gf_12_13 C (hM) (v := .ref (m + 2)) rfl dX12_goDay_108 rfl ?_
        refine g_iload C 0 dX12_goDay_111 rfl rfl ?_
        refine g_iconst C (v := 1) dX12_goDay_113 (by decide) rfl ?_
        refine g_iadd C dX12_goDay_114 rfl ?_
        refine g_topi (y := 2) (by decide) ?_
        refine g_iald' C (hR.2.1) (j := 2) rfl (by omega) (by decide) dX12_goDay_115 rfl ?_
        refine g_iast' C (hR.2.1) (j := 1) rfl (by omega) (by decide) dX12_goDay_116 (pc' := 117) rfl (fun h1 e2 o3 => ?_)
        have hM : MdO h1 m (uB (uB (σ) 12 (pf)) 7 (upd (gB σ 7) (1) (gB σ 7 (2)))) (s18) (s19) (s20) (s23) (s24) (s35) := (o3 _ (by omega)).trans hM
        have hR : MdR D h1 m (uB (uB (σ) 12 (pf)) 7 (upd (gB σ 7) (1) (gB σ 7 (2)))) (f21) (f22) := ⟨(o3 _ (by omega)).trans hR.1, e2, (o3 _ (by omega)).trans hR.2.2.1, (o3 _ (by omega)).trans hR.2.2.2.1, (o3 _ (by omega)).trans hR.2.2.2.2.1, (o3 _ (by omega)).trans hR.2.2.2.2.2.1, (o3 _ (by omega)).trans hR.2.2.2.2.2.2.1, (o3 _ (by omega)).trans hR.2.2.2.2.2.2.2.1, (o3 _ (by omega)).trans hR.2.2.2.2.2.2.2.2.1, (o3 _ (by omega)).trans hR.2.2.2.2.2.2.2.2.2.1, (o3 _ (by omega)).trans hR.2.2.2.2.2.2.2.2.2.2.1, (o3 _ (by omega)).trans hR.2.2.2.2.2.2.2.2.2.2.2.1, (o3 _ (by omega)).trans hR.2.2.2.2.2.2.2.2.2.2.2.2.1, (o3 _ (by omega)).trans hR.2.2.2.2.2.2.2.2.2.2.2.2.2.1, (o3 _ (by omega)).trans hR.2.2.2.2.2.2.2.2.2.2.2.2.2.2⟩
        have hO : ∀ q, (q < m ∨ m + 16 ≤ q) → h1 q = h q := fun q hq => (o3 q (by omega)).trans (hO q hq)
        refine g_iinc C (v := 2) 0 ([(4, .int (2)), (3, .int (ac)), (0, .ref (m)), (1, .int (nI (w))), (2, .int (0))]) dX12_goDay_117 rfl (by decide) (by decide) rfl rfl ?_
        refine g_goto C dX12_goDay_120 (tgt := 85) (by decide) ?_
        refine g_iload C 0 dX12_goDay_85 rfl rfl ?_
        refine g_iconst C (v := 4) dX12_goDay_87 (by decide) rfl ?_
        refine g_icmp_gt C dX12_goDay_88 (tgt := 123) (by decide) (pc' := 91) rfl (fun c88 => absurd c88 (by decide)) (fun _ => ?_)
        refine g_aload_n C 2 dX12_goDay_91 rfl rfl rfl ?_
        refine gf_12_13 C (hM) (v := .ref (m + 2)) rfl dX12_goDay_92 rfl ?_
        refine g_iload C 0 dX12_goDay_95 rfl rfl ?_
        refine g_iload C 0 dX12_goDay_97 rfl rfl ?_
        refine g_iconst C (v := 4) dX12_goDay_99 (by decide) rfl ?_
        refine g_icmp_ne C dX12_goDay_100 (tgt := 107) (by decide) (pc' := 103) rfl (fun _ => ?_) (fun c100 => absurd c100 (by decide))
        refine g_aload_n C 2 dX12_goDay_107 rfl rfl rfl ?_
        refine gf_12_13 C (hM) (v := .ref (m + 2)) rfl dX12_goDay_108 rfl ?_
        refine g_iload C 0 dX12_goDay_111 rfl rfl ?_
        refine g_iconst C (v := 1) dX12_goDay_113 (by decide) rfl ?_
        refine g_iadd C dX12_goDay_114 rfl ?_
        refine g_topi (y := 3) (by decide) ?_
        refine g_iald' C (hR.2.1) (j := 3) rfl (by omega) (by decide) dX12_goDay_115 rfl ?_
        refine g_iast' C (hR.2.1) (j := 2) rfl (by omega) (by decide) dX12_goDay_116 (pc' := 117) rfl (fun h4 e5 o6 => ?_)
        have hM : MdO h4 m (uB (uB (uB (σ) 12 (pf)) 7 (upd (gB σ 7) (1) (gB σ 7 (2)))) 7 (upd (upd (gB σ 7) (1) (gB σ 7 (2))) (2) (upd (gB σ 7) (1) (gB σ 7 (2)) (3)))) (s18) (s19) (s20) (s23) (s24) (s35) := (o6 _ (by omega)).trans hM
        have hR : MdR D h4 m (uB (uB (uB (σ) 12 (pf)) 7 (upd (gB σ 7) (1) (gB σ 7 (2)))) 7 (upd (upd (gB σ 7) (1) (gB σ 7 (2))) (2) (upd (gB σ 7) (1) (gB σ 7 (2)) (3)))) (f21) (f22) := ⟨(o6 _ (by omega)).trans hR.1, e5, (o6 _ (by omega)).trans hR.2.2.1, (o6 _ (by omega)).trans hR.2.2.2.1, (o6 _ (by omega)).trans hR.2.2.2.2.1, (o6 _ (by omega)).trans hR.2.2.2.2.2.1, (o6 _ (by omega)).trans hR.2.2.2.2.2.2.1, (o6 _ (by omega)).trans hR.2.2.2.2.2.2.2.1, (o6 _ (by omega)).trans hR.2.2.2.2.2.2.2.2.1, (o6 _ (by omega)).trans hR.2.2.2.2.2.2.2.2.2.1, (o6 _ (by omega)).trans hR.2.2.2.2.2.2.2.2.2.2.1, (o6 _ (by omega)).trans hR.2.2.2.2.2.2.2.2.2.2.2.1, (o6 _ (by omega)).trans hR.2.2.2.2.2.2.2.2.2.2.2.2.1, (o6 _ (by omega)).trans hR.2.2.2.2.2.2.2.2.2.2.2.2.2.1, (o6 _ (by omega)).trans hR.2.2.2.2.2.2.2.2.2.2.2.2.2.2⟩
        have hO : ∀ q, (q < m ∨ m + 16 ≤ q) → h4 q = h q := fun q hq => (o6 q (by omega)).trans (hO q hq)
        refine g_iinc C (v := 3) 0 ([(4, .int (3)), (3, .int (ac)), (0, .ref (m)), (1, .int (nI (w))), (2, .int (0))]) dX12_goDay_117 rfl (by decide) (by decide) rfl rfl ?_
        refine g_goto C dX12_goDay_120 (tgt := 85) (by decide) ?_
        refine g_iload C 0 dX12_goDay_85 rfl rfl ?_
        refine g_iconst C (v := 4) dX12_goDay_87 (by decide) rfl ?_
        refine g_icmp_gt C dX12_goDay_88 (tgt := 123) (by decide) (pc' := 91) rfl (fun c88 => absurd c88 (by decide)) (fun _ => ?_)
        refine g_aload_n C 2 dX12_goDay_91 rfl rfl rfl ?_
        refine gf_12_13 C (hM) (v := .ref (m + 2)) rfl dX12_goDay_92 rfl ?_
        refine g_iload C 0 dX12_goDay_95 rfl rfl ?_
        refine g_iload C 0 dX12_goDay_97 rfl rfl ?_
        refine g_iconst C (v := 4) dX12_goDay_99 (by decide) rfl ?_
        refine g_icmp_ne C dX12_goDay_100 (tgt := 107) (by decide) (pc' := 103) rfl (fun _ => ?_) (fun c100 => absurd c100 (by decide))
        refine g_aload_n C 2 dX12_goDay_107 rfl rfl rfl ?_
        refine gf_12_13 C (hM) (v := .ref (m + 2)) rfl dX12_goDay_108 rfl ?_
        refine g_iload C 0 dX12_goDay_111 rfl rfl ?_
        refine g_iconst C (v := 1) dX12_goDay_113 (by decide) rfl ?_
        refine g_iadd C dX12_goDay_114 rfl ?_
        refine g_topi (y := 4) (by decide) ?_
        refine g_iald' C (hR.2.1) (j := 4) rfl (by omega) (by decide) dX12_goDay_115 rfl ?_
        refine g_iast' C (hR.2.1) (j := 3) rfl (by omega) (by decide) dX12_goDay_116 (pc' := 117) rfl (fun h7 e8 o9 => ?_)
        have hM : MdO h7 m (uB (uB (uB (uB (σ) 12 (pf)) 7 (upd (gB σ 7) (1) (gB σ 7 (2)))) 7 (upd (upd (gB σ 7) (1) (gB σ 7 (2))) (2) (upd (gB σ 7) (1) (gB σ 7 (2)) (3)))) 7 (upd (upd (upd (gB σ 7) (1) (gB σ 7 (2))) (2) (upd (gB σ 7) (1) (gB σ 7 (2)) (3))) (3) (upd (upd (gB σ 7) (1) (gB σ 7 (2))) (2) (upd (gB σ 7) (1) (gB σ 7 (2)) (3)) (4)))) (s18) (s19) (s20) (s23) (s24) (s35) := (o9 _ (by omega)).trans hM
        have hR : MdR D h7 m (uB (uB (uB (uB (σ) 12 (pf)) 7 (upd (gB σ 7) (1) (gB σ 7 (2)))) 7 (upd (upd (gB σ 7) (1) (gB σ 7 (2))) (2) (upd (gB σ 7) (1) (gB σ 7 (2)) (3)))) 7 (upd (upd (upd (gB σ 7) (1) (gB σ 7 (2))) (2) (upd (gB σ 7) (1) (gB σ 7 (2)) (3))) (3) (upd (upd (gB σ 7) (1) (gB σ 7 (2))) (2) (upd (gB σ 7) (1) (gB σ 7 (2)) (3)) (4)))) (f21) (f22) := ⟨(o9 _ (by omega)).trans hR.1, e8, (o9 _ (by omega)).trans hR.2.2.1, (o9 _ (by omega)).trans hR.2.2.2.1, (o9 _ (by omega)).trans hR.2.2.2.2.1, (o9 _ (by omega)).trans hR.2.2.2.2.2.1, (o9 _ (by omega)).trans hR.2.2.2.2.2.2.1, (o9 _ (by omega)).trans hR.2.2.2.2.2.2.2.1, (o9 _ (by omega)).trans hR.2.2.2.2.2.2.2.2.1, (o9 _ (by omega)).trans hR.2.2.2.2.2.2.2.2.2.1, (o9 _ (by omega)).trans hR.2.2.2.2.2.2.2.2.2.2.1, (o9 _ (by omega)).trans hR.2.2.2.2.2.2.2.2.2.2.2.1, (o9 _ (by omega)).trans hR.2.2.2.2.2.2.2.2.2.2.2.2.1, (o9 _ (by omega)).trans hR.2.2.2.2.2.2.2.2.2.2.2.2.2.1, (o9 _ (by omega)).trans hR.2.2.2.2.2.2.2.2.2.2.2.2.2.2⟩
        have hO : ∀ q, (q < m ∨ m + 16 ≤ q) → h7 q = h q := fun q hq => (o9 q (by omega)).trans (hO q hq)
        refine g_iinc C (v := 4) 0 ([(4, .int (4)), (3, .int (ac)), (0, .ref (m)), (1, .int (nI (w))), (2, .int (0))]) dX12_goDay_117 rfl (by decide) (by decide) rfl rfl ?_
        refine g_goto C dX12_goDay_120 (tgt := 85) (by decide) ?_
        refine g_iload C 0 dX12_goDay_85 rfl rfl ?_
        refine g_iconst C (v := 4) dX12_goDay_87 (by decide) rfl ?_
        refine g_icmp_gt C dX12_goDay_88 (tgt := 123) (by decide) (pc' := 91) rfl (fun c88 => absurd c88 (by decide)) (fun _ => ?_)
        refine g_aload_n C 2 dX12_goDay_91 rfl rfl rfl ?_
        refine gf_12_13 C (hM) (v := .ref (m + 2)) rfl dX12_goDay_92 rfl ?_
        refine g_iload C 0 dX12_goDay_95 rfl rfl ?_
        refine g_iload C 0 dX12_goDay_97 rfl rfl ?_
        refine g_iconst C (v := 4) dX12_goDay_99 (by decide) rfl ?_
        refine g_icmp_ne C dX12_goDay_100 (tgt := 107) (by decide) (pc' := 103) rfl (fun c100 => absurd (by decide) c100) (fun _ => ?_)
        refine g_iconst C (v := -1) dX12_goDay_103 (by decide) rfl ?_
        refine g_goto C dX12_goDay_104 (tgt := 116) (by decide) ?_
        refine g_iast' C (hR.2.1) (j := 4) rfl (by omega) (by decide) dX12_goDay_116 (pc' := 117) rfl (fun h10 e11 o12 => ?_)
        have hM : MdO h10 m (uB (uB (uB (uB (uB (σ) 12 (pf)) 7 (upd (gB σ 7) (1) (gB σ 7 (2)))) 7 (upd (upd (gB σ 7) (1) (gB σ 7 (2))) (2) (upd (gB σ 7) (1) (gB σ 7 (2)) (3)))) 7 (upd (upd (upd (gB σ 7) (1) (gB σ 7 (2))) (2) (upd (gB σ 7) (1) (gB σ 7 (2)) (3))) (3) (upd (upd (gB σ 7) (1) (gB σ 7 (2))) (2) (upd (gB σ 7) (1) (gB σ 7 (2)) (3)) (4)))) 7 (upd (upd (upd (upd (gB σ 7) (1) (gB σ 7 (2))) (2) (upd (gB σ 7) (1) (gB σ 7 (2)) (3))) (3) (upd (upd (gB σ 7) (1) (gB σ 7 (2))) (2) (upd (gB σ 7) (1) (gB σ 7 (2)) (3)) (4))) (4) ((-1)))) (s18) (s19) (s20) (s23) (s24) (s35) := (o12 _ (by omega)).trans hM
        have hR : MdR D h10 m (uB (uB (uB (uB (uB (σ) 12 (pf)) 7 (upd (gB σ 7) (1) (gB σ 7 (2)))) 7 (upd (upd (gB σ 7) (1) (gB σ 7 (2))) (2) (upd (gB σ 7) (1) (gB σ 7 (2)) (3)))) 7 (upd (upd (upd (gB σ 7) (1) (gB σ 7 (2))) (2) (upd (gB σ 7) (1) (gB σ 7 (2)) (3))) (3) (upd (upd (gB σ 7) (1) (gB σ 7 (2))) (2) (upd (gB σ 7) (1) (gB σ 7 (2)) (3)) (4)))) 7 (upd (upd (upd (upd (gB σ 7) (1) (gB σ 7 (2))) (2) (upd (gB σ 7) (1) (gB σ 7 (2)) (3))) (3) (upd (upd (gB σ 7) (1) (gB σ 7 (2))) (2) (upd (gB σ 7) (1) (gB σ 7 (2)) (3)) (4))) (4) ((-1)))) (f21) (f22) := ⟨(o12 _ (by omega)).trans hR.1, e11, (o12 _ (by omega)).trans hR.2.2.1, (o12 _ (by omega)).trans hR.2.2.2.1, (o12 _ (by omega)).trans hR.2.2.2.2.1, (o12 _ (by omega)).trans hR.2.2.2.2.2.1, (o12 _ (by omega)).trans hR.2.2.2.2.2.2.1, (o12 _ (by omega)).trans hR.2.2.2.2.2.2.2.1, (o12 _ (by omega)).trans hR.2.2.2.2.2.2.2.2.1, (o12 _ (by omega)).trans hR.2.2.2.2.2.2.2.2.2.1, (o12 _ (by omega)).trans hR.2.2.2.2.2.2.2.2.2.2.1, (o12 _ (by omega)).trans hR.2.2.2.2.2.2.2.2.2.2.2.1, (o12 _ (by omega)).trans hR.2.2.2.2.2.2.2.2.2.2.2.2.1, (o12 _ (by omega)).trans hR.2.2.2.2.2.2.2.2.2.2.2.2.2.1, (o12 _ (by omega)).trans hR.2.2.2.2.2.2.2.2.2.2.2.2.2.2⟩
        have hO : ∀ q, (q < m ∨ m + 16 ≤ q) → h10 q = h q := fun q hq => (o12 q (by omega)).trans (hO q hq)
        refine g_iinc C (v := 5) 0 ([(4, .int (5)), (3, .int (ac)), (0, .ref (m)), (1, .int (nI (w))), (2, .int (0))]) dX12_goDay_117 rfl (by decide) (by decide) rfl rfl ?_
        refine g_goto C dX12_goDay_120 (tgt := 85) (by decide) ?_
        refine g_iload C 0 dX12_goDay_85 rfl rfl ?_
        refine g_iconst C (v := 4) dX12_goDay_87 (by decide) rfl ?_
        refine g_icmp_gt C dX12_goDay_88 (tgt := 123) (by decide) (pc' := 91) rfl (fun _ => ?_) (fun c88 => absurd (by decide) c88)
        refine g_aload_n C 2 dX12_goDay_123 rfl rfl rfl ?_
        refine g_iload_n C 3 dX12_goDay_124 rfl rfl rfl ?_
        refine pf_12_92 C (hM) (v := .int (nI (w))) rfl rfl (Nat.le_of_ble_eq_true rfl) dX12_goDay_125 (pc' := 128) rfl (fun h13 e14 o15 => ?_)
        have hM : MdO h13 m (uN (uB (uB (uB (uB (uB (σ) 12 (pf)) 7 (upd (gB σ 7) (1) (gB σ 7 (2)))) 7 (upd (upd (gB σ 7) (1) (gB σ 7 (2))) (2) (upd (gB σ 7) (1) (gB σ 7 (2)) (3)))) 7 (upd (upd (upd (gB σ 7) (1) (gB σ 7 (2))) (2) (upd (gB σ 7) (1) (gB σ 7 (2)) (3))) (3) (upd (upd (gB σ 7) (1) (gB σ 7 (2))) (2) (upd (gB σ 7) (1) (gB σ 7 (2)) (3)) (4)))) 7 (upd (upd (upd (upd (gB σ 7) (1) (gB σ 7 (2))) (2) (upd (gB σ 7) (1) (gB σ 7 (2)) (3))) (3) (upd (upd (gB σ 7) (1) (gB σ 7 (2))) (2) (upd (gB σ 7) (1) (gB σ 7 (2)) (3)) (4))) (4) ((-1)))) 6 (w)) (s18) (s19) (s20) (s23) (s24) (s35) := e14
        have hR : MdR D h13 m (uN (uB (uB (uB (uB (uB (σ) 12 (pf)) 7 (upd (gB σ 7) (1) (gB σ 7 (2)))) 7 (upd (upd (gB σ 7) (1) (gB σ 7 (2))) (2) (upd (gB σ 7) (1) (gB σ 7 (2)) (3)))) 7 (upd (upd (upd (gB σ 7) (1) (gB σ 7 (2))) (2) (upd (gB σ 7) (1) (gB σ 7 (2)) (3))) (3) (upd (upd (gB σ 7) (1) (gB σ 7 (2))) (2) (upd (gB σ 7) (1) (gB σ 7 (2)) (3)) (4)))) 7 (upd (upd (upd (upd (gB σ 7) (1) (gB σ 7 (2))) (2) (upd (gB σ 7) (1) (gB σ 7 (2)) (3))) (3) (upd (upd (gB σ 7) (1) (gB σ 7 (2))) (2) (upd (gB σ 7) (1) (gB σ 7 (2)) (3)) (4))) (4) ((-1)))) 6 (w)) (f21) (f22) := hR.fr (fun q g1 g2 => o15 q (by omega))
        have hO : ∀ q, (q < m ∨ m + 16 ≤ q) → h13 q = h q := fun q hq => (o15 q (by omega)).trans (hO q hq)
        refine g_aload_n C 2 dX12_goDay_128 rfl rfl rfl ?_
        refine g_dup C rfl dX12_goDay_129 rfl ?_
        refine gf_12_89 C (hM) (v := .int (gI σ 5)) rfl dX12_goDay_130 rfl ?_
        refine g_iconst C (v := 1) dX12_goDay_133 (by decide) rfl ?_
        refine g_iadd C dX12_goDay_134 rfl ?_
        refine pf_12_89 C (hM) (v := .int ((gI σ 5) + (1))) rfl rfl (Nat.le_of_ble_eq_true rfl) dX12_goDay_135 (pc' := 138) rfl (fun h16 e17 o18 => ?_)
        have hM : MdO h16 m (uI (uN (uB (uB (uB (uB (uB (σ) 12 (pf)) 7 (upd (gB σ 7) (1) (gB σ 7 (2)))) 7 (upd (upd (gB σ 7) (1) (gB σ 7 (2))) (2) (upd (gB σ 7) (1) (gB σ 7 (2)) (3)))) 7 (upd (upd (upd (gB σ 7) (1) (gB σ 7 (2))) (2) (upd (gB σ 7) (1) (gB σ 7 (2)) (3))) (3) (upd (upd (gB σ 7) (1) (gB σ 7 (2))) (2) (upd (gB σ 7) (1) (gB σ 7 (2)) (3)) (4)))) 7 (upd (upd (upd (upd (gB σ 7) (1) (gB σ 7 (2))) (2) (upd (gB σ 7) (1) (gB σ 7 (2)) (3))) (3) (upd (upd (gB σ 7) (1) (gB σ 7 (2))) (2) (upd (gB σ 7) (1) (gB σ 7 (2)) (3)) (4))) (4) ((-1)))) 6 (w)) 5 ((gI σ 5) + (1))) (s18) (s19) (s20) (s23) (s24) (s35) := e17
        have hR : MdR D h16 m (uI (uN (uB (uB (uB (uB (uB (σ) 12 (pf)) 7 (upd (gB σ 7) (1) (gB σ 7 (2)))) 7 (upd (upd (gB σ 7) (1) (gB σ 7 (2))) (2) (upd (gB σ 7) (1) (gB σ 7 (2)) (3)))) 7 (upd (upd (upd (gB σ 7) (1) (gB σ 7 (2))) (2) (upd (gB σ 7) (1) (gB σ 7 (2)) (3))) (3) (upd (upd (gB σ 7) (1) (gB σ 7 (2))) (2) (upd (gB σ 7) (1) (gB σ 7 (2)) (3)) (4)))) 7 (upd (upd (upd (upd (gB σ 7) (1) (gB σ 7 (2))) (2) (upd (gB σ 7) (1) (gB σ 7 (2)) (3))) (3) (upd (upd (gB σ 7) (1) (gB σ 7 (2))) (2) (upd (gB σ 7) (1) (gB σ 7 (2)) (3)) (4))) (4) ((-1)))) 6 (w)) 5 ((gI σ 5) + (1))) (f21) (f22) := hR.fr (fun q g1 g2 => o18 q (by omega))
        have hO : ∀ q, (q < m ∨ m + 16 ≤ q) → h16 q = h q := fun q hq => (o18 q (by omega)).trans (hO q hq)
        refine g_iload_n C 1 dX12_goDay_138 rfl rfl rfl ?_
        refine g_canon C ((show h16 (m + 2) = some (cI D 5 (upd (upd (upd (upd (gB σ 7) (1) (gB σ 7 (2))) (2) (upd (gB σ 7) (1) (gB σ 7 (2)) (3))) (3) (upd (upd (gB σ 7) (1) (gB σ 7 (2))) (2) (upd (gB σ 7) (1) (gB σ 7 (2)) (3)) (4))) (4) ((-1)))) from hR.2.1)) (g := shR (gB σ 7)) (shR_of (by simp [upd]) (by simp [upd]) (by simp [upd]) (by simp [upd]) (by simp [upd])) (fun h19 e20 o21 => ?_)
        have hM : MdO h19 m ((uI (uN (uB (uB σ 12 pf) 7 (shR (gB σ 7))) 6 w) 5 (gI σ 5 + 1))) (s18) (s19) (s20) (s23) (s24) (s35) := (o21 _ (by omega)).trans hM
        have hR : MdR D h19 m ((uI (uN (uB (uB σ 12 pf) 7 (shR (gB σ 7))) 6 w) 5 (gI σ 5 + 1))) (f21) (f22) := ⟨(o21 _ (by omega)).trans hR.1, e20, (o21 _ (by omega)).trans hR.2.2.1, (o21 _ (by omega)).trans hR.2.2.2.1, (o21 _ (by omega)).trans hR.2.2.2.2.1, (o21 _ (by omega)).trans hR.2.2.2.2.2.1, (o21 _ (by omega)).trans hR.2.2.2.2.2.2.1, (o21 _ (by omega)).trans hR.2.2.2.2.2.2.2.1, (o21 _ (by omega)).trans hR.2.2.2.2.2.2.2.2.1, (o21 _ (by omega)).trans hR.2.2.2.2.2.2.2.2.2.1, (o21 _ (by omega)).trans hR.2.2.2.2.2.2.2.2.2.2.1, (o21 _ (by omega)).trans hR.2.2.2.2.2.2.2.2.2.2.2.1, (o21 _ (by omega)).trans hR.2.2.2.2.2.2.2.2.2.2.2.2.1, (o21 _ (by omega)).trans hR.2.2.2.2.2.2.2.2.2.2.2.2.2.1, (o21 _ (by omega)).trans hR.2.2.2.2.2.2.2.2.2.2.2.2.2.2⟩
        have hO : ∀ q, (q < m ∨ m + 16 ≤ q) → h19 q = h q := fun q hq => (o21 q (by omega)).trans (hO q hq)
        have hpE : p = gN σ 8 := by omega
        subst hpE
        subst hpf
        have hM : MdO h19 m (dyM0 σ w) s18 s19 s20 s23 s24 s35 := hM
        have hR : MdR D h19 m (dyM0 σ w) f21 f22 := hR
        exact ret _ _ _ _ dX12_goDay_139 rfl (⟨hac, hM, hR, hO⟩)
      · intro c11
        replace c11 := (not_congr (nI_leI (a := gN σ 8) (b := p) (by omega) (by omega))).mp c11
        refine g_aload_n C 2 dX12_goDay_14 rfl rfl rfl ?_
        refine g_iload C 0 dX12_goDay_15 rfl rfl ?_
        refine g_callVi C (As := [.int (nI (p))]) (q := (RX12, TX12, 36)) (k_X12_covers l D b z hM hR h6 (p := p) (by omega)) hw_12_122 (hM) rfl (by decide) rfl rfl (Nat.le_of_ble_eq_true rfl) ⟨Nat.zero_le _, Nat.zero_le _⟩ dX12_goDay_17 (pc' := 20) rfl ?_
        rintro r22 h9 ⟨⟨er, hp17⟩ | ⟨er, hp17⟩, e9⟩
        · subst h9; subst er
          rw [mcS_12] at hp17
          refine g_if_eq C dX12_goDay_20 (tgt := 33) (by decide) (pc' := 23) rfl (fun c20 => absurd c20 (by decide)) (fun _ => ?_)
          refine g_aload_n C 2 dX12_goDay_23 rfl rfl rfl ?_
          refine gf_12_19 C (hM) (v := .ref (m + 4)) rfl dX12_goDay_24 rfl ?_
          refine g_iload C 0 dX12_goDay_27 rfl rfl ?_
          refine g_iald' C (hR.2.2.2.1) (j := p) rfl (by omega) (by decide) dX12_goDay_29 rfl ?_
          refine g_goto C dX12_goDay_30 (tgt := 49) (by decide) ?_
          refine g_topi (y := mdV σ w p) (mdV_t hp17) ?_
          refine g_istore C ([(5, .int (mdV σ w p)), (4, .int (nI (p))), (3, .int (ac)), (0, .ref (m)), (1, .int (nI (w))), (2, .int (0))]) dX12_goDay_49 (by decide) rfl rfl ?_
          refine g_aload_n C 3 dX12_goDay_51 rfl rfl rfl ?_
          refine gf_12_25 C (hM) (v := .ref (m + 6)) rfl dX12_goDay_52 rfl ?_
          refine g_iload C 1 dX12_goDay_55 rfl rfl ?_
          refine g_dup2 C rfl rfl dX12_goDay_57 rfl ?_
          refine g_iald' C (hR.2.2.2.2.2.1) (j := p) rfl (by omega) (by decide) dX12_goDay_58 rfl ?_
          refine g_iload_n C 5 dX12_goDay_59 rfl rfl rfl ?_
          refine g_if_eq C dX12_goDay_60 (tgt := 68) (by decide) (pc' := 63) rfl (fun _ => ?_) (fun c60 => absurd (by decide) c60)
          refine g_iconst C (v := 0) dX12_goDay_68 (by decide) rfl ?_
          refine g_iadd C dX12_goDay_69 rfl ?_
          refine g_iast' C (hR.2.2.2.2.2.1) (j := p) rfl (by omega) (by decide) dX12_goDay_70 (pc' := 71) rfl (fun h23 e24 o25 => ?_)
          have hM : MdO h23 m (uB (uB (σ) 12 (pf)) 12 (upd (pf) (p) ((pf (p)) + (0)))) (s18) (s19) (s20) (s23) (s24) (s35) := (o25 _ (by omega)).trans hM
          have hR : MdR D h23 m (uB (uB (σ) 12 (pf)) 12 (upd (pf) (p) ((pf (p)) + (0)))) (f21) (f22) := ⟨(o25 _ (by omega)).trans hR.1, (o25 _ (by omega)).trans hR.2.1, (o25 _ (by omega)).trans hR.2.2.1, (o25 _ (by omega)).trans hR.2.2.2.1, (o25 _ (by omega)).trans hR.2.2.2.2.1, e24, (o25 _ (by omega)).trans hR.2.2.2.2.2.2.1, (o25 _ (by omega)).trans hR.2.2.2.2.2.2.2.1, (o25 _ (by omega)).trans hR.2.2.2.2.2.2.2.2.1, (o25 _ (by omega)).trans hR.2.2.2.2.2.2.2.2.2.1, (o25 _ (by omega)).trans hR.2.2.2.2.2.2.2.2.2.2.1, (o25 _ (by omega)).trans hR.2.2.2.2.2.2.2.2.2.2.2.1, (o25 _ (by omega)).trans hR.2.2.2.2.2.2.2.2.2.2.2.2.1, (o25 _ (by omega)).trans hR.2.2.2.2.2.2.2.2.2.2.2.2.2.1, (o25 _ (by omega)).trans hR.2.2.2.2.2.2.2.2.2.2.2.2.2.2⟩
          have hO : ∀ q, (q < m ∨ m + 16 ≤ q) → h23 q = h q := fun q hq => (o25 q (by omega)).trans (hO q hq)
          refine g_iload_n C 2 dX12_goDay_71 rfl rfl rfl ?_
          refine g_iload C 0 dX12_goDay_72 rfl rfl ?_
          refine g_iadd C dX12_goDay_74 rfl ?_
          refine g_istore_n C ([(3, .int ((ac) + (mdV σ w p))), (5, .int (mdV σ w p)), (4, .int (nI (p))), (0, .ref (m)), (1, .int (nI (w))), (2, .int (0))]) dX12_goDay_75 rfl (by decide) rfl rfl ?_
          refine g_iinc C (v := nI (p + 1)) 2 ([(4, .int (nI (p + 1))), (3, .int ((ac) + (mdV σ w p))), (5, .int (mdV σ w p)), (0, .ref (m)), (1, .int (nI (w))), (2, .int (0))]) dX12_goDay_76 rfl (nI_1 _) (by decide) rfl rfl ?_
          refine g_goto C dX12_goDay_79 (tgt := 5) (by decide) ?_
          have hM : MdO h23 m (uB σ 12 (upd (pf) (p) (pf p + 0))) s18 s19 s20 s23 s24 s35 := hM
          have hR : MdR D h23 m (uB σ 12 (upd (pf) (p) (pf p + 0))) f21 f22 := hR
          refine q_lsub [0, 1, 3, 4, 5] (L' := [(4, .int (nI (p + 1))), (3, .int ((ac) + (mdV σ w p))), (0, .ref (m)), (1, .int (nI (w))), (2, .int (0))]) rfl ?_
          exact ih5 (p + 1) (ac + mdV σ w p) (h23) (upd (pf) (p) (pf p + 0)) (by omega) (by omega) (by rw [hpf]; exact up_0 _ _) (hM) (hR) (hO) (by simp only [saM]; rw [hac])
        · subst h9; subst er
          rw [mcS_12] at hp17
          refine g_if_eq C dX12_goDay_20 (tgt := 33) (by decide) (pc' := 23) rfl (fun _ => ?_) (fun c20 => absurd (by decide) c20)
          refine g_iload_n C 3 dX12_goDay_33 rfl rfl rfl ?_
          refine g_iconst C (v := 1) dX12_goDay_34 (by decide) rfl ?_
          refine g_icmp_ne C dX12_goDay_35 (tgt := 48) (by decide) (pc' := 38) rfl ?_ ?_
          · intro c35
            replace c35 := (not_congr (nI_eq (a := w) (b := 1) (by omega) (by omega))).mp c35
            refine g_iconst C (v := 0) dX12_goDay_48 (by decide) rfl ?_
            refine g_topi (y := mdV σ w p) (mdV_f hp17 hw c35) ?_
            refine g_istore C ([(5, .int (mdV σ w p)), (4, .int (nI (p))), (3, .int (ac)), (0, .ref (m)), (1, .int (nI (w))), (2, .int (0))]) dX12_goDay_49 (by decide) rfl rfl ?_
            refine g_aload_n C 3 dX12_goDay_51 rfl rfl rfl ?_
            refine gf_12_25 C (hM) (v := .ref (m + 6)) rfl dX12_goDay_52 rfl ?_
            refine g_iload C 1 dX12_goDay_55 rfl rfl ?_
            refine g_dup2 C rfl rfl dX12_goDay_57 rfl ?_
            refine g_iald' C (hR.2.2.2.2.2.1) (j := p) rfl (by omega) (by decide) dX12_goDay_58 rfl ?_
            refine g_iload_n C 5 dX12_goDay_59 rfl rfl rfl ?_
            refine g_if_eq C dX12_goDay_60 (tgt := 68) (by decide) (pc' := 63) rfl (fun _ => ?_) (fun c60 => absurd (by decide) c60)
            refine g_iconst C (v := 0) dX12_goDay_68 (by decide) rfl ?_
            refine g_iadd C dX12_goDay_69 rfl ?_
            refine g_iast' C (hR.2.2.2.2.2.1) (j := p) rfl (by omega) (by decide) dX12_goDay_70 (pc' := 71) rfl (fun h26 e27 o28 => ?_)
            have hM : MdO h26 m (uB (uB (σ) 12 (pf)) 12 (upd (pf) (p) ((pf (p)) + (0)))) (s18) (s19) (s20) (s23) (s24) (s35) := (o28 _ (by omega)).trans hM
            have hR : MdR D h26 m (uB (uB (σ) 12 (pf)) 12 (upd (pf) (p) ((pf (p)) + (0)))) (f21) (f22) := ⟨(o28 _ (by omega)).trans hR.1, (o28 _ (by omega)).trans hR.2.1, (o28 _ (by omega)).trans hR.2.2.1, (o28 _ (by omega)).trans hR.2.2.2.1, (o28 _ (by omega)).trans hR.2.2.2.2.1, e27, (o28 _ (by omega)).trans hR.2.2.2.2.2.2.1, (o28 _ (by omega)).trans hR.2.2.2.2.2.2.2.1, (o28 _ (by omega)).trans hR.2.2.2.2.2.2.2.2.1, (o28 _ (by omega)).trans hR.2.2.2.2.2.2.2.2.2.1, (o28 _ (by omega)).trans hR.2.2.2.2.2.2.2.2.2.2.1, (o28 _ (by omega)).trans hR.2.2.2.2.2.2.2.2.2.2.2.1, (o28 _ (by omega)).trans hR.2.2.2.2.2.2.2.2.2.2.2.2.1, (o28 _ (by omega)).trans hR.2.2.2.2.2.2.2.2.2.2.2.2.2.1, (o28 _ (by omega)).trans hR.2.2.2.2.2.2.2.2.2.2.2.2.2.2⟩
            have hO : ∀ q, (q < m ∨ m + 16 ≤ q) → h26 q = h q := fun q hq => (o28 q (by omega)).trans (hO q hq)
            refine g_iload_n C 2 dX12_goDay_71 rfl rfl rfl ?_
            refine g_iload C 0 dX12_goDay_72 rfl rfl ?_
            refine g_iadd C dX12_goDay_74 rfl ?_
            refine g_istore_n C ([(3, .int ((ac) + (mdV σ w p))), (5, .int (mdV σ w p)), (4, .int (nI (p))), (0, .ref (m)), (1, .int (nI (w))), (2, .int (0))]) dX12_goDay_75 rfl (by decide) rfl rfl ?_
            refine g_iinc C (v := nI (p + 1)) 2 ([(4, .int (nI (p + 1))), (3, .int ((ac) + (mdV σ w p))), (5, .int (mdV σ w p)), (0, .ref (m)), (1, .int (nI (w))), (2, .int (0))]) dX12_goDay_76 rfl (nI_1 _) (by decide) rfl rfl ?_
            refine g_goto C dX12_goDay_79 (tgt := 5) (by decide) ?_
            have hM : MdO h26 m (uB σ 12 (upd (pf) (p) (pf p + 0))) s18 s19 s20 s23 s24 s35 := hM
            have hR : MdR D h26 m (uB σ 12 (upd (pf) (p) (pf p + 0))) f21 f22 := hR
            refine q_lsub [0, 1, 3, 4, 5] (L' := [(4, .int (nI (p + 1))), (3, .int ((ac) + (mdV σ w p))), (0, .ref (m)), (1, .int (nI (w))), (2, .int (0))]) rfl ?_
            exact ih5 (p + 1) (ac + mdV σ w p) (h26) (upd (pf) (p) (pf p + 0)) (by omega) (by omega) (by rw [hpf]; exact up_0 _ _) (hM) (hR) (hO) (by simp only [saM]; rw [hac])
          · intro c35
            replace c35 := (nI_eq (a := w) (b := 1) (by omega) (by omega)).mp c35
            refine g_aload_n C 2 dX12_goDay_38 rfl rfl rfl ?_
            refine gf_12_22 C (hM) (v := .ref (m + 5)) rfl dX12_goDay_39 rfl ?_
            refine g_iload C 0 dX12_goDay_42 rfl rfl ?_
            refine g_iald' C (hR.2.2.2.2.1) (j := p) rfl (by omega) (by decide) dX12_goDay_44 rfl ?_
            refine g_goto C dX12_goDay_45 (tgt := 49) (by decide) ?_
            refine g_topi (y := mdV σ w p) (mdV_w hp17 c35) ?_
            refine g_istore C ([(5, .int (mdV σ w p)), (4, .int (nI (p))), (3, .int (ac)), (0, .ref (m)), (1, .int (nI (w))), (2, .int (0))]) dX12_goDay_49 (by decide) rfl rfl ?_
            refine g_aload_n C 3 dX12_goDay_51 rfl rfl rfl ?_
            refine gf_12_25 C (hM) (v := .ref (m + 6)) rfl dX12_goDay_52 rfl ?_
            refine g_iload C 1 dX12_goDay_55 rfl rfl ?_
            refine g_dup2 C rfl rfl dX12_goDay_57 rfl ?_
            refine g_iald' C (hR.2.2.2.2.2.1) (j := p) rfl (by omega) (by decide) dX12_goDay_58 rfl ?_
            refine g_iload_n C 5 dX12_goDay_59 rfl rfl rfl ?_
            refine g_if_eq C dX12_goDay_60 (tgt := 68) (by decide) (pc' := 63) rfl (fun _ => ?_) (fun c60 => absurd (by decide) c60)
            refine g_iconst C (v := 0) dX12_goDay_68 (by decide) rfl ?_
            refine g_iadd C dX12_goDay_69 rfl ?_
            refine g_iast' C (hR.2.2.2.2.2.1) (j := p) rfl (by omega) (by decide) dX12_goDay_70 (pc' := 71) rfl (fun h29 e30 o31 => ?_)
            have hM : MdO h29 m (uB (uB (σ) 12 (pf)) 12 (upd (pf) (p) ((pf (p)) + (0)))) (s18) (s19) (s20) (s23) (s24) (s35) := (o31 _ (by omega)).trans hM
            have hR : MdR D h29 m (uB (uB (σ) 12 (pf)) 12 (upd (pf) (p) ((pf (p)) + (0)))) (f21) (f22) := ⟨(o31 _ (by omega)).trans hR.1, (o31 _ (by omega)).trans hR.2.1, (o31 _ (by omega)).trans hR.2.2.1, (o31 _ (by omega)).trans hR.2.2.2.1, (o31 _ (by omega)).trans hR.2.2.2.2.1, e30, (o31 _ (by omega)).trans hR.2.2.2.2.2.2.1, (o31 _ (by omega)).trans hR.2.2.2.2.2.2.2.1, (o31 _ (by omega)).trans hR.2.2.2.2.2.2.2.2.1, (o31 _ (by omega)).trans hR.2.2.2.2.2.2.2.2.2.1, (o31 _ (by omega)).trans hR.2.2.2.2.2.2.2.2.2.2.1, (o31 _ (by omega)).trans hR.2.2.2.2.2.2.2.2.2.2.2.1, (o31 _ (by omega)).trans hR.2.2.2.2.2.2.2.2.2.2.2.2.1, (o31 _ (by omega)).trans hR.2.2.2.2.2.2.2.2.2.2.2.2.2.1, (o31 _ (by omega)).trans hR.2.2.2.2.2.2.2.2.2.2.2.2.2.2⟩
            have hO : ∀ q, (q < m ∨ m + 16 ≤ q) → h29 q = h q := fun q hq => (o31 q (by omega)).trans (hO q hq)
            refine g_iload_n C 2 dX12_goDay_71 rfl rfl rfl ?_
            refine g_iload C 0 dX12_goDay_72 rfl rfl ?_
            refine g_iadd C dX12_goDay_74 rfl ?_
            refine g_istore_n C ([(3, .int ((ac) + (mdV σ w p))), (5, .int (mdV σ w p)), (4, .int (nI (p))), (0, .ref (m)), (1, .int (nI (w))), (2, .int (0))]) dX12_goDay_75 rfl (by decide) rfl rfl ?_
            refine g_iinc C (v := nI (p + 1)) 2 ([(4, .int (nI (p + 1))), (3, .int ((ac) + (mdV σ w p))), (5, .int (mdV σ w p)), (0, .ref (m)), (1, .int (nI (w))), (2, .int (0))]) dX12_goDay_76 rfl (nI_1 _) (by decide) rfl rfl ?_
            refine g_goto C dX12_goDay_79 (tgt := 5) (by decide) ?_
            have hM : MdO h29 m (uB σ 12 (upd (pf) (p) (pf p + 0))) s18 s19 s20 s23 s24 s35 := hM
            have hR : MdR D h29 m (uB σ 12 (upd (pf) (p) (pf p + 0))) f21 f22 := hR
            refine q_lsub [0, 1, 3, 4, 5] (L' := [(4, .int (nI (p + 1))), (3, .int ((ac) + (mdV σ w p))), (0, .ref (m)), (1, .int (nI (w))), (2, .int (0))]) rfl ?_
            exact ih5 (p + 1) (ac + mdV σ w p) (h29) (upd (pf) (p) (pf p + 0)) (by omega) (by omega) (by rw [hpf]; exact up_0 _ _) (hM) (hR) (hO) (by simp only [saM]; rw [hac])
  have hM : MdO h m (uB σ 12 (gB σ 12)) s18 s19 s20 s23 s24 s35 := hM
  have hR : MdR D h m (uB σ 12 (gB σ 12)) f21 f22 := hR
  exact loop5 _ (0) (0) (h) (gB σ 12) (Nat.lt_succ_self _) (Nat.zero_le _) (rfl) (hM) (hR) (hO) (rfl)
noncomputable def mDay (σ : sg) (v : Int32) : Int32 × sg := cIf (inP 0 2 v) (if gN σ 0 = 0 then (-103, σ) else (if wgC σ 1 v = 0 then (-103, σ) else (gI σ 5 + 1, dyM σ v.toNatClampNeg))) (-101, σ)
set_option maxHeartbeats 4000000 in
set_option maxRecDepth 100000 in
theorem k_X12_day (l : Launch) (D : va_G) (b z : Nat) {h : qH} {m : Nat} {σ : sg} {s18 s35 : Int64} {s19 s20 s23 s24 : Int32} {f21 f22 : Nat → Int32} (hM : MdO h m σ s18 s19 s20 s23 s24 s35) (hR : MdR D h m σ f21 f22) (h0 : gN σ 0 ≤ 1) (h6 : gN σ 6 < 3) (h8 : gN σ 8 ≤ 4) (v : Int32) : qMi l D b yX12_day cX12_day 2 .int 5 121 [.ref (m), .int (v)] h z (fun r0 h' => (r0 = (mDay σ v).1 ∧ MdlAt D h' m (mDay σ v).2) ∧ ∀ q, (q < m ∨ m + 16 ≤ q) → h' q = h q) := by
  refine q_i (L := [(0, .ref (m)), (1, .int (v))]) (own := RX12) (by decide) rfl (Nat.le_of_ble_eq_true rfl) rfl ?_
  intro X C ret
  have hO : ∀ q, (q < m ∨ m + 16 ≤ q) → h q = h q := fun _ _ => rfl
  refine g_iload_n C 1 dX12_day_0 rfl rfl rfl ?_
  refine g_callSi C (As := [.int (v)]) (k_X12_isWeather l D b z h (v)) hw_12_101 (by decide) rfl rfl (Nat.le_of_ble_eq_true rfl) ⟨Nat.zero_le _, Nat.zero_le _⟩ dX12_day_1 (pc' := 4) rfl ?_
  rintro r1 h9 ⟨⟨er, hp1⟩ | ⟨er, hp1⟩, e9⟩
  · subst h9; subst er
    have hp1_ := hp1
    obtain ⟨i, rfl, hp1a, hp1b⟩ := hp1_
    refine g_if_ne C dX12_day_4 (tgt := 10) (by decide) (pc' := 7) rfl (fun _ => ?_) (fun c4 => absurd c4 (by decide))
    refine g_aload_n C 0 dX12_day_10 rfl rfl rfl ?_
    refine gf_12_82 C (hM) (v := .int (nI (gN σ 0))) rfl dX12_day_11 rfl ?_
    refine g_if_eq C dX12_day_14 (tgt := 28) (by decide) (pc' := 17) rfl ?_ ?_
    · intro c14
      replace c14 := (nI_eq (a := gN σ 0) (b := 0) (by omega) (by omega)).mp c14
      refine g_bipush C (v := -103) dX12_day_28 (by decide) rfl ?_
      exact ret _ _ _ _ dX12_day_30 rfl (⟨by unfold mDay; rw [cIf_t hp1, if_pos c14]; exact ⟨rfl, ⟨_, _, _, _, _, _, _, _, hM, hR⟩⟩, fun _ _ => rfl⟩)
    · intro c14
      replace c14 := (not_congr (nI_eq (a := gN σ 0) (b := 0) (by omega) (by omega))).mp c14
      refine g_aload_n C 0 dX12_day_17 rfl rfl rfl ?_
      refine g_iconst C (v := 1) dX12_day_18 (by decide) rfl ?_
      refine g_iload_n C 1 dX12_day_19 rfl rfl rfl ?_
      refine g_callVl C (As := [.int (1), .int (nI (i))]) (q := (RX12, TX12, 36)) (k_X12_weightOf l D b z hM hR h6 (a := 1) (by omega) (nI (i))) hw_12_115 (hM) rfl (by decide) rfl rfl (Nat.le_of_ble_eq_true rfl) ⟨Nat.zero_le _, Nat.zero_le _⟩ dX12_day_20 (pc' := 23) rfl ?_
      rintro r2 h9 ⟨er, e9⟩
      subst h9; subst er
      refine g_lconst C (v := 0) dX12_day_23 (by decide) rfl ?_
      refine g_lcmp C dX12_day_24 rfl ?_
      refine g_if_ne C dX12_day_25 (tgt := 31) (by decide) (pc' := 28) rfl ?_ ?_
      · intro c25
        replace c25 := (not_congr (lg_cmp_eq _ _)).mp c25
        refine g_aload_n C 0 dX12_day_31 rfl rfl rfl ?_
        refine g_iload_n C 1 dX12_day_32 rfl rfl rfl ?_
        refine g_iconst C (v := 1) dX12_day_33 (by decide) rfl ?_
        refine g_callVi C (As := [.int (nI (i)), .int (1)]) (q := (RX12, TX12, 36)) (k1_X12_goDay l D b z hM hR h6 h8 (w := i) (by omega)) hw_12_125 (hM) rfl (by decide) rfl rfl (Nat.le_of_ble_eq_true rfl) ⟨Nat.zero_le _, Nat.zero_le _⟩ dX12_day_34 (pc' := 37) rfl ?_
        rintro r3 h4 ⟨er, hM, hR, hO⟩
        subst er
        refine g_pop C rfl dX12_day_37 rfl ?_
        refine g_aload_n C 0 dX12_day_38 rfl rfl rfl ?_
        refine gf_12_89 C (hM) (v := .int (gI ((dyM σ i)) 5)) rfl dX12_day_39 rfl ?_
        exact ret _ _ _ _ dX12_day_42 rfl (⟨by unfold mDay; rw [cIf_t hp1, if_neg c14, if_neg c25, nIc (by omega)]; exact ⟨rfl, ⟨_, _, _, _, _, _, _, _, hM, hR⟩⟩, hO⟩)
      · intro c25
        replace c25 := (lg_cmp_eq _ _).mp c25
        refine g_bipush C (v := -103) dX12_day_28 (by decide) rfl ?_
        exact ret _ _ _ _ dX12_day_30 rfl (⟨by unfold mDay; rw [cIf_t hp1, if_neg c14, if_pos c25]; exact ⟨rfl, ⟨_, _, _, _, _, _, _, _, hM, hR⟩⟩, fun _ _ => rfl⟩)
  · subst h9; subst er
    refine g_if_ne C dX12_day_4 (tgt := 10) (by decide) (pc' := 7) rfl (fun c4 => absurd (by decide) c4) (fun _ => ?_)
    refine g_bipush C (v := -101) dX12_day_7 (by decide) rfl ?_
    exact ret _ _ _ _ dX12_day_9 rfl (⟨by unfold mDay; rw [cIf_f hp1]; exact ⟨rfl, ⟨_, _, _, _, _, _, _, _, hM, hR⟩⟩, fun _ _ => rfl⟩)

/-! the reference model: what only asks -/
set_option maxHeartbeats 4000000 in
set_option maxRecDepth 100000 in
theorem k_X12_figure (l : Launch) (D : va_G) (b z : Nat) {h : qH} {m : Nat} {σ : sg} {s18 s35 : Int64} {s19 s20 s23 s24 : Int32} {f21 f22 : Nat → Int32} (hM : MdO h m σ s18 s19 s20 s23 s24 s35) (hR : MdR D h m σ f21 f22) {k : Nat} (hk : k < 16) : qMi l D b yX12_figure cX12_figure 2 .int 0 0 [.ref (m), .int (nI (k))] h z (fun r0 h' => r0 = gB σ 17 k - 48 ∧ h' = h) := by
  refine q_i (L := [(0, .ref (m)), (1, .int (nI (k)))]) (own := RX12) (by decide) rfl (Nat.le_of_ble_eq_true rfl) rfl ?_
  intro X C ret
  refine g_aload_n C 0 dX12_figure_0 rfl rfl rfl ?_
  refine gf_12_34 C (hM) (v := .ref (m + 9)) rfl dX12_figure_1 rfl ?_
  refine g_iload_n C 1 dX12_figure_4 rfl rfl rfl ?_
  refine g_bald' C (hR.2.2.2.2.2.2.2.2.1) (j := k) rfl (by omega) (by decide) dX12_figure_5 rfl ?_
  refine g_bipush C (v := 48) dX12_figure_6 (by decide) rfl ?_
  refine g_isub C dX12_figure_8 rfl ?_
  exact ret _ _ _ _ dX12_figure_9 rfl (⟨rfl, rfl⟩)
def fgM (σ : sg) (k : Nat) : Int32 := gB σ 17 k - 48
def mgP (σ : sg) (k : Nat) : Prop := if k ≤ 11 then (if nI (k % 4) = 0 then inP 0 9 (fgM σ k) else if nI (k % 4) = 1 then (inP 0 9 (fgM σ k) ∧ ¬ 10 < fgM σ (k - 1) + fgM σ k) else if nI (k % 4) = 2 then (inP 0 9 (fgM σ k) ∧ fgM σ (k - 2) + fgM σ (k - 1) + fgM σ k = 10) else gB σ 17 k = (if k = 11 then 59 else 47)) else if k = 12 then inP 1 4 (fgM σ k) else (k = 13 ∧ inP 0 9 (fgM σ k))
theorem k1_of {k : Nat} (h : nI (k % 4) = 1) : 1 ≤ k := by
  have : k % 4 = 1 := nIinj (by omega) (by decide) h
  omega
theorem k2_of {k : Nat} (h : nI (k % 4) = 2) : 2 ≤ k := by
  have : k % 4 = 2 := nIinj (by omega) (by decide) h
  omega
set_option maxHeartbeats 4000000 in
set_option maxRecDepth 100000 in
theorem k_X12_isGood (l : Launch) (D : va_G) (b z : Nat) {h : qH} {m : Nat} {σ : sg} {s18 s35 : Int64} {s19 s20 s23 s24 : Int32} {f21 f22 : Nat → Int32} (hM : MdO h m σ s18 s19 s20 s23 s24 s35) (hR : MdR D h m σ f21 f22) {k : Nat} (hk : k < 16) : qMi l D b yX12_isGood cX12_isGood 3 .boolean 1 22 [.ref (m), .int (nI (k))] h z (fun r h' => ((r = 1 ∧ mgP σ k) ∨ (r = 0 ∧ ¬ mgP σ k)) ∧ h' = h) := by
  refine q_i (L := [(0, .ref (m)), (1, .int (nI (k)))]) (own := RX12) (by decide) rfl (Nat.le_of_ble_eq_true rfl) rfl ?_
  intro X C ret
  refine g_aload_n C 0 dX12_isGood_0 rfl rfl rfl ?_
  refine g_iload_n C 1 dX12_isGood_1 rfl rfl rfl ?_
  refine g_callVi C (As := [.int (nI (k))]) (q := (RX12, TX12, 36)) (k_X12_figure l D b z hM hR (k := k) (by omega)) hw_12_64 (hM) rfl (by decide) rfl rfl (Nat.le_of_ble_eq_true rfl) ⟨Nat.zero_le _, Nat.zero_le _⟩ dX12_isGood_2 (pc' := 5) rfl ?_
  rintro r1 h9 ⟨er, e9⟩
  subst h9; subst er
  refine g_istore_n C ([(2, .int (fgM σ (k))), (0, .ref (m)), (1, .int (nI (k)))]) dX12_isGood_5 rfl (by decide) rfl rfl ?_
  refine g_iload_n C 2 dX12_isGood_6 rfl rfl rfl ?_
  refine g_bipush C (v := 11) dX12_isGood_7 (by decide) rfl ?_
  refine g_icmp_le C dX12_isGood_9 (tgt := 49) (by decide) (pc' := 12) rfl ?_ ?_
  · intro c9
    replace c9 := (nI_leI (a := k) (b := 11) (by omega) (by omega)).mp c9
    refine g_iload_n C 2 dX12_isGood_49 rfl rfl rfl ?_
    refine g_iconst C (v := 4) dX12_isGood_50 (by decide) rfl ?_
    refine g_irem C dX12_isGood_51 (by decide) rfl ?_
    refine g_topi (y := nI (k % 4)) (rem_nI (a := k) (d := 4) (by omega) (by decide) (by decide)) ?_
    by_cases c52_0 : (nI (k % 4)) = 0
    · refine g_tableIn C dX12_isGood_52 (off := 28) (tgt := 80) (by rw [c52_0]; decide) (by rw [c52_0]; decide) (by rw [c52_0]; decide) (by decide) ?_
      refine g_iload_n C 0 dX12_isGood_80 rfl rfl rfl ?_
      refine g_iconst C (v := 0) dX12_isGood_81 (by decide) rfl ?_
      refine g_bipush C (v := 9) dX12_isGood_82 (by decide) rfl ?_
      refine g_callSi C (As := [.int (fgM σ (k)), .int (0), .int (9)]) (k_X12_within l D b z h (fgM σ (k)) (0) (9)) hw_12_56 (by decide) rfl rfl (Nat.le_of_ble_eq_true rfl) ⟨Nat.zero_le _, Nat.zero_le _⟩ dX12_isGood_84 (pc' := 87) rfl ?_
      rintro r2 h9 ⟨⟨er, hp84⟩ | ⟨er, hp84⟩, e9⟩
      · subst h9; subst er
        have hp84 := (wit_in (lo := 0) (hi := 9) (x := fgM σ (k)) (by decide) (by decide)).mp hp84
        exact ret _ _ _ _ dX12_isGood_87 rfl (⟨Or.inl ⟨rfl, by unfold mgP; rw [if_pos c9, if_pos c52_0]; exact hp84⟩, rfl⟩)
      · subst h9; subst er
        have hp84 := (not_congr (wit_in (lo := 0) (hi := 9) (x := fgM σ (k)) (by decide) (by decide))).mp hp84
        exact ret _ _ _ _ dX12_isGood_87 rfl (⟨Or.inr ⟨rfl, by unfold mgP; rw [if_pos c9, if_pos c52_0]; exact hp84⟩, rfl⟩)
    by_cases c52_1 : (nI (k % 4)) = 1
    · refine g_tableIn C dX12_isGood_52 (off := 36) (tgt := 88) (by rw [c52_1]; decide) (by rw [c52_1]; decide) (by rw [c52_1]; decide) (by decide) ?_
      refine g_iload_n C 0 dX12_isGood_88 rfl rfl rfl ?_
      refine g_iconst C (v := 0) dX12_isGood_89 (by decide) rfl ?_
      refine g_bipush C (v := 9) dX12_isGood_90 (by decide) rfl ?_
      refine g_callSi C (As := [.int (fgM σ (k)), .int (0), .int (9)]) (k_X12_within l D b z h (fgM σ (k)) (0) (9)) hw_12_56 (by decide) rfl rfl (Nat.le_of_ble_eq_true rfl) ⟨Nat.zero_le _, Nat.zero_le _⟩ dX12_isGood_92 (pc' := 95) rfl ?_
      rintro r3 h9 ⟨⟨er, hp92⟩ | ⟨er, hp92⟩, e9⟩
      · subst h9; subst er
        have hp92 := (wit_in (lo := 0) (hi := 9) (x := fgM σ (k)) (by decide) (by decide)).mp hp92
        refine g_if_eq C dX12_isGood_95 (tgt := 116) (by decide) (pc' := 98) rfl (fun c95 => absurd c95 (by decide)) (fun _ => ?_)
        refine g_aload_n C 1 dX12_isGood_98 rfl rfl rfl ?_
        refine g_iload_n C 2 dX12_isGood_99 rfl rfl rfl ?_
        refine g_iconst C (v := 1) dX12_isGood_100 (by decide) rfl ?_
        refine g_isub C dX12_isGood_101 rfl ?_
        refine g_topi (y := nI (k - 1)) (nI_sub' (b := 1) (k1_of c52_1)) ?_
        refine g_callVi C (As := [.int (nI (k - 1))]) (q := (RX12, TX12, 36)) (k_X12_figure l D b z hM hR (k := k - 1) (by omega)) hw_12_64 (hM) rfl (by decide) rfl rfl (Nat.le_of_ble_eq_true rfl) ⟨Nat.zero_le _, Nat.zero_le _⟩ dX12_isGood_102 (pc' := 105) rfl ?_
        rintro r4 h9 ⟨er, e9⟩
        subst h9; subst er
        refine g_iload_n C 0 dX12_isGood_105 rfl rfl rfl ?_
        refine g_iadd C dX12_isGood_106 rfl ?_
        refine g_bipush C (v := 10) dX12_isGood_107 (by decide) rfl ?_
        refine g_icmp_gt C dX12_isGood_109 (tgt := 116) (by decide) (pc' := 112) rfl ?_ ?_
        · intro c109
          refine g_iconst C (v := 0) dX12_isGood_116 (by decide) rfl ?_
          exact ret _ _ _ _ dX12_isGood_117 rfl (⟨Or.inr ⟨rfl, by unfold mgP; rw [if_pos c9, if_neg c52_0, if_pos c52_1]; exact fun g => g.2 c109⟩, rfl⟩)
        · intro c109
          refine g_iconst C (v := 1) dX12_isGood_112 (by decide) rfl ?_
          refine g_goto C dX12_isGood_113 (tgt := 117) (by decide) ?_
          exact ret _ _ _ _ dX12_isGood_117 rfl (⟨Or.inl ⟨rfl, by unfold mgP; rw [if_pos c9, if_neg c52_0, if_pos c52_1]; exact ⟨hp92, c109⟩⟩, rfl⟩)
      · subst h9; subst er
        have hp92 := (not_congr (wit_in (lo := 0) (hi := 9) (x := fgM σ (k)) (by decide) (by decide))).mp hp92
        refine g_if_eq C dX12_isGood_95 (tgt := 116) (by decide) (pc' := 98) rfl (fun _ => ?_) (fun c95 => absurd (by decide) c95)
        refine g_iconst C (v := 0) dX12_isGood_116 (by decide) rfl ?_
        exact ret _ _ _ _ dX12_isGood_117 rfl (⟨Or.inr ⟨rfl, by unfold mgP; rw [if_pos c9, if_neg c52_0, if_pos c52_1]; exact fun g => hp92 g.1⟩, rfl⟩)
    by_cases c52_2 : (nI (k % 4)) = 2
    · refine g_tableIn C dX12_isGood_52 (off := 66) (tgt := 118) (by rw [c52_2]; decide) (by rw [c52_2]; decide) (by rw [c52_2]; decide) (by decide) ?_
      refine g_iload_n C 0 dX12_isGood_118 rfl rfl rfl ?_
      refine g_iconst C (v := 0) dX12_isGood_119 (by decide) rfl ?_
      refine g_bipush C (v := 9) dX12_isGood_120 (by decide) rfl ?_
      refine g_callSi C (As := [.int (fgM σ (k)), .int (0), .int (9)]) (k_X12_within l D b z h (fgM σ (k)) (0) (9)) hw_12_56 (by decide) rfl rfl (Nat.le_of_ble_eq_true rfl) ⟨Nat.zero_le _, Nat.zero_le _⟩ dX12_isGood_122 (pc' := 125) rfl ?_
      rintro r5 h9 ⟨⟨er, hp122⟩ | ⟨er, hp122⟩, e9⟩
      · subst h9; subst er
        have hp122 := (wit_in (lo := 0) (hi := 9) (x := fgM σ (k)) (by decide) (by decide)).mp hp122
        refine g_if_eq C dX12_isGood_125 (tgt := 154) (by decide) (pc' := 128) rfl (fun c125 => absurd c125 (by decide)) (fun _ => ?_)
        refine g_aload_n C 1 dX12_isGood_128 rfl rfl rfl ?_
        refine g_iload_n C 2 dX12_isGood_129 rfl rfl rfl ?_
        refine g_iconst C (v := 2) dX12_isGood_130 (by decide) rfl ?_
        refine g_isub C dX12_isGood_131 rfl ?_
        refine g_topi (y := nI (k - 2)) (nI_sub' (b := 2) (k2_of c52_2)) ?_
        refine g_callVi C (As := [.int (nI (k - 2))]) (q := (RX12, TX12, 36)) (k_X12_figure l D b z hM hR (k := k - 2) (by omega)) hw_12_64 (hM) rfl (by decide) rfl rfl (Nat.le_of_ble_eq_true rfl) ⟨Nat.zero_le _, Nat.zero_le _⟩ dX12_isGood_132 (pc' := 135) rfl ?_
        rintro r6 h9 ⟨er, e9⟩
        subst h9; subst er
        refine g_aload_n C 1 dX12_isGood_135 rfl rfl rfl ?_
        refine g_iload_n C 2 dX12_isGood_136 rfl rfl rfl ?_
        refine g_iconst C (v := 1) dX12_isGood_137 (by decide) rfl ?_
        refine g_isub C dX12_isGood_138 rfl ?_
        refine g_topi (y := nI (k - 1)) (nI_sub' (b := 1) (by have := k2_of c52_2; omega)) ?_
        refine g_callVi C (As := [.int (nI (k - 1))]) (q := (RX12, TX12, 36)) (k_X12_figure l D b z hM hR (k := k - 1) (by omega)) hw_12_64 (hM) rfl (by decide) rfl rfl (Nat.le_of_ble_eq_true rfl) ⟨Nat.zero_le _, Nat.zero_le _⟩ dX12_isGood_139 (pc' := 142) rfl ?_
        rintro r7 h9 ⟨er, e9⟩
        subst h9; subst er
        refine g_iadd C dX12_isGood_142 rfl ?_
        refine g_iload_n C 0 dX12_isGood_143 rfl rfl rfl ?_
        refine g_iadd C dX12_isGood_144 rfl ?_
        refine g_bipush C (v := 10) dX12_isGood_145 (by decide) rfl ?_
        refine g_icmp_ne C dX12_isGood_147 (tgt := 154) (by decide) (pc' := 150) rfl ?_ ?_
        · intro c147
          refine g_iconst C (v := 0) dX12_isGood_154 (by decide) rfl ?_
          exact ret _ _ _ _ dX12_isGood_155 rfl (⟨Or.inr ⟨rfl, by unfold mgP; rw [if_pos c9, if_neg c52_0, if_neg c52_1, if_pos c52_2]; exact fun g => c147 g.2⟩, rfl⟩)
        · intro c147
          refine g_iconst C (v := 1) dX12_isGood_150 (by decide) rfl ?_
          refine g_goto C dX12_isGood_151 (tgt := 155) (by decide) ?_
          exact ret _ _ _ _ dX12_isGood_155 rfl (⟨Or.inl ⟨rfl, by unfold mgP; rw [if_pos c9, if_neg c52_0, if_neg c52_1, if_pos c52_2]; exact ⟨hp122, c147⟩⟩, rfl⟩)
      · subst h9; subst er
        have hp122 := (not_congr (wit_in (lo := 0) (hi := 9) (x := fgM σ (k)) (by decide) (by decide))).mp hp122
        refine g_if_eq C dX12_isGood_125 (tgt := 154) (by decide) (pc' := 128) rfl (fun _ => ?_) (fun c125 => absurd (by decide) c125)
        refine g_iconst C (v := 0) dX12_isGood_154 (by decide) rfl ?_
        exact ret _ _ _ _ dX12_isGood_155 rfl (⟨Or.inr ⟨rfl, by unfold mgP; rw [if_pos c9, if_neg c52_0, if_neg c52_1, if_pos c52_2]; exact fun g => hp122 g.1⟩, rfl⟩)
    refine g_tableOut C dX12_isGood_52 (tgt := 156) (swo_0_2 c52_0 c52_1 c52_2) (by decide) ?_
    refine g_aload_n C 1 dX12_isGood_156 rfl rfl rfl ?_
    refine gf_12_34 C (hM) (v := .ref (m + 9)) rfl dX12_isGood_157 rfl ?_
    refine g_iload_n C 2 dX12_isGood_160 rfl rfl rfl ?_
    refine g_bald' C (hR.2.2.2.2.2.2.2.2.1) (j := k) rfl (by omega) (by decide) dX12_isGood_161 rfl ?_
    refine g_iload_n C 2 dX12_isGood_162 rfl rfl rfl ?_
    refine g_bipush C (v := 11) dX12_isGood_163 (by decide) rfl ?_
    refine g_icmp_ne C dX12_isGood_165 (tgt := 173) (by decide) (pc' := 168) rfl ?_ ?_
    · intro c165
      replace c165 := (not_congr (nI_eq (a := k) (b := 11) (by omega) (by omega))).mp c165
      refine g_bipush C (v := 47) dX12_isGood_173 (by decide) rfl ?_
      refine g_icmp_ne C dX12_isGood_175 (tgt := 182) (by decide) (pc' := 178) rfl ?_ ?_
      · intro c175
        refine g_iconst C (v := 0) dX12_isGood_182 (by decide) rfl ?_
        exact ret _ _ _ _ dX12_isGood_183 rfl (⟨Or.inr ⟨rfl, by unfold mgP; rw [if_pos c9, if_neg c52_0, if_neg c52_1, if_neg c52_2, if_neg c165]; exact c175⟩, rfl⟩)
      · intro c175
        refine g_iconst C (v := 1) dX12_isGood_178 (by decide) rfl ?_
        refine g_goto C dX12_isGood_179 (tgt := 183) (by decide) ?_
        exact ret _ _ _ _ dX12_isGood_183 rfl (⟨Or.inl ⟨rfl, by unfold mgP; rw [if_pos c9, if_neg c52_0, if_neg c52_1, if_neg c52_2, if_neg c165]; exact c175⟩, rfl⟩)
    · intro c165
      replace c165 := (nI_eq (a := k) (b := 11) (by omega) (by omega)).mp c165
      refine g_bipush C (v := 59) dX12_isGood_168 (by decide) rfl ?_
      refine g_goto C dX12_isGood_170 (tgt := 175) (by decide) ?_
      refine g_icmp_ne C dX12_isGood_175 (tgt := 182) (by decide) (pc' := 178) rfl ?_ ?_
      · intro c175
        refine g_iconst C (v := 0) dX12_isGood_182 (by decide) rfl ?_
        exact ret _ _ _ _ dX12_isGood_183 rfl (⟨Or.inr ⟨rfl, by unfold mgP; rw [if_pos c9, if_neg c52_0, if_neg c52_1, if_neg c52_2, if_pos c165]; exact c175⟩, rfl⟩)
      · intro c175
        refine g_iconst C (v := 1) dX12_isGood_178 (by decide) rfl ?_
        refine g_goto C dX12_isGood_179 (tgt := 183) (by decide) ?_
        exact ret _ _ _ _ dX12_isGood_183 rfl (⟨Or.inl ⟨rfl, by unfold mgP; rw [if_pos c9, if_neg c52_0, if_neg c52_1, if_neg c52_2, if_pos c165]; exact c175⟩, rfl⟩)
  · intro c9
    replace c9 := (not_congr (nI_leI (a := k) (b := 11) (by omega) (by omega))).mp c9
    refine g_iload_n C 2 dX12_isGood_12 rfl rfl rfl ?_
    refine g_bipush C (v := 12) dX12_isGood_13 (by decide) rfl ?_
    refine g_icmp_ne C dX12_isGood_15 (tgt := 27) (by decide) (pc' := 18) rfl ?_ ?_
    · intro c15
      replace c15 := (not_congr (nI_eq (a := k) (b := 12) (by omega) (by omega))).mp c15
      refine g_iload_n C 2 dX12_isGood_27 rfl rfl rfl ?_
      refine g_bipush C (v := 13) dX12_isGood_28 (by decide) rfl ?_
      refine g_icmp_ne C dX12_isGood_30 (tgt := 47) (by decide) (pc' := 33) rfl ?_ ?_
      · intro c30
        replace c30 := (not_congr (nI_eq (a := k) (b := 13) (by omega) (by omega))).mp c30
        refine g_iconst C (v := 0) dX12_isGood_47 (by decide) rfl ?_
        exact ret _ _ _ _ dX12_isGood_48 rfl (⟨Or.inr ⟨rfl, by unfold mgP; rw [if_neg c9, if_neg c15]; exact fun g => c30 g.1⟩, rfl⟩)
      · intro c30
        replace c30 := (nI_eq (a := k) (b := 13) (by omega) (by omega)).mp c30
        refine g_iload_n C 0 dX12_isGood_33 rfl rfl rfl ?_
        refine g_iconst C (v := 0) dX12_isGood_34 (by decide) rfl ?_
        refine g_bipush C (v := 9) dX12_isGood_35 (by decide) rfl ?_
        refine g_callSi C (As := [.int (fgM σ (k)), .int (0), .int (9)]) (k_X12_within l D b z h (fgM σ (k)) (0) (9)) hw_12_56 (by decide) rfl rfl (Nat.le_of_ble_eq_true rfl) ⟨Nat.zero_le _, Nat.zero_le _⟩ dX12_isGood_37 (pc' := 40) rfl ?_
        rintro r8 h9 ⟨⟨er, hp37⟩ | ⟨er, hp37⟩, e9⟩
        · subst h9; subst er
          have hp37 := (wit_in (lo := 0) (hi := 9) (x := fgM σ (k)) (by decide) (by decide)).mp hp37
          refine g_if_eq C dX12_isGood_40 (tgt := 47) (by decide) (pc' := 43) rfl (fun c40 => absurd c40 (by decide)) (fun _ => ?_)
          refine g_iconst C (v := 1) dX12_isGood_43 (by decide) rfl ?_
          refine g_goto C dX12_isGood_44 (tgt := 48) (by decide) ?_
          exact ret _ _ _ _ dX12_isGood_48 rfl (⟨Or.inl ⟨rfl, by unfold mgP; rw [if_neg c9, if_neg c15]; exact ⟨c30, hp37⟩⟩, rfl⟩)
        · subst h9; subst er
          have hp37 := (not_congr (wit_in (lo := 0) (hi := 9) (x := fgM σ (k)) (by decide) (by decide))).mp hp37
          refine g_if_eq C dX12_isGood_40 (tgt := 47) (by decide) (pc' := 43) rfl (fun _ => ?_) (fun c40 => absurd (by decide) c40)
          refine g_iconst C (v := 0) dX12_isGood_47 (by decide) rfl ?_
          exact ret _ _ _ _ dX12_isGood_48 rfl (⟨Or.inr ⟨rfl, by unfold mgP; rw [if_neg c9, if_neg c15]; exact fun g => hp37 g.2⟩, rfl⟩)
    · intro c15
      replace c15 := (nI_eq (a := k) (b := 12) (by omega) (by omega)).mp c15
      refine g_iload_n C 0 dX12_isGood_18 rfl rfl rfl ?_
      refine g_iconst C (v := 1) dX12_isGood_19 (by decide) rfl ?_
      refine g_iconst C (v := 4) dX12_isGood_20 (by decide) rfl ?_
      refine g_callSi C (As := [.int (fgM σ (k)), .int (1), .int (4)]) (k_X12_within l D b z h (fgM σ (k)) (1) (4)) hw_12_56 (by decide) rfl rfl (Nat.le_of_ble_eq_true rfl) ⟨Nat.zero_le _, Nat.zero_le _⟩ dX12_isGood_21 (pc' := 24) rfl ?_
      rintro r9 h9 ⟨⟨er, hp21⟩ | ⟨er, hp21⟩, e9⟩
      · subst h9; subst er
        have hp21 := (wit_in (lo := 1) (hi := 4) (x := fgM σ (k)) (by decide) (by decide)).mp hp21
        refine g_goto C dX12_isGood_24 (tgt := 48) (by decide) ?_
        exact ret _ _ _ _ dX12_isGood_48 rfl (⟨Or.inl ⟨rfl, by unfold mgP; rw [if_neg c9, if_pos c15]; exact hp21⟩, rfl⟩)
      · subst h9; subst er
        have hp21 := (not_congr (wit_in (lo := 1) (hi := 4) (x := fgM σ (k)) (by decide) (by decide))).mp hp21
        refine g_goto C dX12_isGood_24 (tgt := 48) (by decide) ?_
        exact ret _ _ _ _ dX12_isGood_48 rfl (⟨Or.inr ⟨rfl, by unfold mgP; rw [if_neg c9, if_pos c15]; exact hp21⟩, rfl⟩)
set_option maxHeartbeats 4000000 in
set_option maxRecDepth 100000 in
theorem k_X12_faultNow (l : Launch) (D : va_G) (b z : Nat) {h : qH} {m : Nat} {σ : sg} {s18 s35 : Int64} {s19 s20 s23 s24 : Int32} {f21 f22 : Nat → Int32} (hM : MdO h m σ s18 s19 s20 s23 s24 s35) (hR : MdR D h m σ f21 f22) (h16 : gN σ 16 ≤ 16) : qMi l D b yX12_faultNow cX12_faultNow 2 .int 2 44 [.ref (m)] h z (fun r0 h' => (∃ k, r0 = nI k ∧ ffP (mgP σ) (gN σ 16) k) ∧ h' = h) := by
  refine q_i (L := [(0, .ref (m))]) (own := RX12) (by decide) rfl (Nat.le_of_ble_eq_true rfl) rfl ?_
  intro X C ret
  refine g_iconst C (v := 0) dX12_faultNow_0 (by decide) rfl ?_
  refine g_istore_n C ([(1, .int (0)), (0, .ref (m))]) dX12_faultNow_1 rfl (by decide) rfl rfl ?_
  have loop2 : ∀ (N : Nat) (k : Nat), gN σ 16 - k < N → (k ≤ gN σ 16) → (∀ j, j < k → mgP σ j) → qG X 0 0 z h 2 [(1, .int (nI (k))), (0, .ref (m))] [] := by
    intro N
    induction N with
    | zero => intro k hm; exact absurd hm (Nat.not_lt_zero _)
    | succ N ih2 =>
      intro k hm hk hg
      refine g_iload_n C 0 dX12_faultNow_2 rfl rfl rfl ?_
      refine g_aload_n C 1 dX12_faultNow_3 rfl rfl rfl ?_
      refine gf_12_60 C (hM) (v := .int (nI (gN (σ) 16))) rfl dX12_faultNow_4 rfl ?_
      refine g_icmp_ge C dX12_faultNow_7 (tgt := 24) (by decide) (pc' := 10) rfl ?_ ?_
      · intro c7
        replace c7 := (nI_leI (a := gN (σ) 16) (b := k) (by omega) (by omega)).mp c7
        refine g_iload_n C 0 dX12_faultNow_24 rfl rfl rfl ?_
        exact ret _ _ _ _ dX12_faultNow_25 rfl (⟨⟨k, rfl, hk, hg, fun g => absurd g (by omega)⟩, rfl⟩)
      · intro c7
        replace c7 := (not_congr (nI_leI (a := gN (σ) 16) (b := k) (by omega) (by omega))).mp c7
        refine g_aload_n C 1 dX12_faultNow_10 rfl rfl rfl ?_
        refine g_iload_n C 0 dX12_faultNow_11 rfl rfl rfl ?_
        refine g_callVi C (As := [.int (nI (k))]) (q := (RX12, TX12, 36)) (k_X12_isGood l D b z hM hR (k := k) (by omega)) hw_12_68 (hM) rfl (by decide) rfl rfl (Nat.le_of_ble_eq_true rfl) ⟨Nat.zero_le _, Nat.zero_le _⟩ dX12_faultNow_12 (pc' := 15) rfl ?_
        rintro r1 h9 ⟨⟨er, hp12⟩ | ⟨er, hp12⟩, e9⟩
        · subst h9; subst er
          refine g_if_eq C dX12_faultNow_15 (tgt := 24) (by decide) (pc' := 18) rfl (fun c15 => absurd c15 (by decide)) (fun _ => ?_)
          refine g_iinc C (v := nI (k + 1)) 0 ([(1, .int (nI (k + 1))), (0, .ref (m))]) dX12_faultNow_18 rfl (nI_1 _) (by decide) rfl rfl ?_
          refine g_goto C dX12_faultNow_21 (tgt := 2) (by decide) ?_
          exact ih2 (k + 1) (by omega) (by omega) (fun j hj => by by_cases e : j = k; rw [e]; exact hp12; exact hg j (by omega))
        · subst h9; subst er
          refine g_if_eq C dX12_faultNow_15 (tgt := 24) (by decide) (pc' := 18) rfl (fun _ => ?_) (fun c15 => absurd (by decide) c15)
          refine g_iload_n C 0 dX12_faultNow_24 rfl rfl rfl ?_
          exact ret _ _ _ _ dX12_faultNow_25 rfl (⟨⟨k, rfl, hk, hg, fun g => hp12⟩, rfl⟩)
  exact loop2 _ (0) (Nat.lt_succ_self _) (Nat.zero_le _) (fun j hj => absurd hj (Nat.not_lt_zero _))
set_option maxHeartbeats 4000000 in
set_option maxRecDepth 100000 in
theorem k_X12_fault (l : Launch) (D : va_G) (b z : Nat) {h : qH} {m : Nat} {σ : sg} {s18 s35 : Int64} {s19 s20 s23 s24 : Int32} {f21 f22 : Nat → Int32} (hM : MdO h m σ s18 s19 s20 s23 s24 s35) (hR : MdR D h m σ f21 f22) (h16 : gN σ 16 ≤ 16) : qMi l D b yX12_fault cX12_fault 1 .int 3 65 [.ref (m)] h z (fun r0 h' => (∃ k, r0 = nI k ∧ ffP (mgP σ) (gN σ 16) k) ∧ h' = h) := by
  refine q_i (L := [(0, .ref (m))]) (own := RX12) (by decide) rfl (Nat.le_of_ble_eq_true rfl) rfl ?_
  intro X C ret
  refine g_aload_n C 0 dX12_fault_0 rfl rfl rfl ?_
  refine g_callVi C (As := []) (q := (RX12, TX12, 36)) (k_X12_faultNow l D b z hM hR h16) hw_12_72 (hM) rfl (by decide) rfl rfl (Nat.le_of_ble_eq_true rfl) ⟨Nat.zero_le _, Nat.zero_le _⟩ dX12_fault_1 (pc' := 4) rfl ?_
  rintro _ h9 ⟨⟨k, rfl, hff⟩, e9⟩
  subst h9
  exact ret _ _ _ _ dX12_fault_4 rfl (⟨⟨k, rfl, hff⟩, rfl⟩)
theorem isPe_wit {σ : sg} (h8 : gN σ 8 ≤ 4) (v : Int32) : (¬ v < 0 ∧ ¬ nI (gN σ 8) - 1 < v) ↔ isPe σ v := by
  constructor
  · intro ⟨h1, h2⟩
    obtain ⟨j, hj, rfl⟩ := nI_of h1
    refine ⟨j, rfl, ?_⟩
    by_cases h0 : gN σ 8 = 0
    · exfalso
      rw [h0] at h2
      apply h2
      have e0 : (nI 0 - 1).toInt = -1 := by decide
      exact Int32.lt_iff_toInt_lt.mpr (by rw [e0, nI_toInt hj]; omega)
    · have e : nI (gN σ 8) - 1 = nI (gN σ 8 - 1) := nI_sub' (b := 1) (by omega)
      rw [e] at h2
      have := (not_congr (nI_ltI (a := gN σ 8 - 1) (b := j) (by omega) hj)).mp h2
      omega
  · rintro ⟨j, rfl, hj⟩
    refine ⟨nI_nneg (by omega), fun g => ?_⟩
    have e : nI (gN σ 8) - 1 = nI (gN σ 8 - 1) := nI_sub' (b := 1) (by omega)
    rw [e] at g
    have := (nI_ltI (a := gN σ 8 - 1) (b := j) (by omega) (by omega)).mp g
    omega
set_option maxHeartbeats 4000000 in
set_option maxRecDepth 100000 in
theorem k_X12_isPerson (l : Launch) (D : va_G) (b z : Nat) {h : qH} {m : Nat} {σ : sg} {s18 s35 : Int64} {s19 s20 s23 s24 : Int32} {f21 f22 : Nat → Int32} (hM : MdO h m σ s18 s19 s20 s23 s24 s35) (hR : MdR D h m σ f21 f22) (h8 : gN σ 8 ≤ 4) (v : Int32) : qMi l D b yX12_isPerson cX12_isPerson 2 .boolean 1 22 [.ref (m), .int (v)] h z (fun r h' => ((r = 1 ∧ isPe σ v) ∨ (r = 0 ∧ ¬ isPe σ v)) ∧ h' = h) := by
  refine q_i (L := [(0, .ref (m)), (1, .int (v))]) (own := RX12) (by decide) rfl (Nat.le_of_ble_eq_true rfl) rfl ?_
  intro X C ret
  refine g_iload_n C 1 dX12_isPerson_0 rfl rfl rfl ?_
  refine g_iconst C (v := 0) dX12_isPerson_1 (by decide) rfl ?_
  refine g_aload_n C 0 dX12_isPerson_2 rfl rfl rfl ?_
  refine gf_12_95 C (hM) (v := .int (nI (gN (σ) 8))) rfl dX12_isPerson_3 rfl ?_
  refine g_iconst C (v := 1) dX12_isPerson_6 (by decide) rfl ?_
  refine g_isub C dX12_isPerson_7 rfl ?_
  refine g_callSi C (As := [.int (v), .int (0), .int ((nI (gN (σ) 8)) - (1))]) (k_X12_within l D b z h (v) (0) ((nI (gN (σ) 8)) - (1))) hw_12_56 (by decide) rfl rfl (Nat.le_of_ble_eq_true rfl) ⟨Nat.zero_le _, Nat.zero_le _⟩ dX12_isPerson_8 (pc' := 11) rfl ?_
  rintro r1 h9 ⟨⟨er, hp8⟩ | ⟨er, hp8⟩, e9⟩
  · subst h9; subst er
    exact ret _ _ _ _ dX12_isPerson_11 rfl (⟨Or.inl ⟨rfl, (isPe_wit h8 v).mp hp8⟩, rfl⟩)
  · subst h9; subst er
    exact ret _ _ _ _ dX12_isPerson_11 rfl (⟨Or.inr ⟨rfl, (not_congr (isPe_wit h8 v)).mp hp8⟩, rfl⟩)
theorem if1_t {p : Nat} {α : Type} {x y : α} (hp : p ≤ 1) (h : ¬ p = 0) : (if p = 1 then x else y) = x := if_pos (by omega)
noncomputable def mFollows (σ : sg) (v w : Int32) : Int32 := cIf (inP 0 2 v ∧ inP 0 2 w) (if gN σ 0 = 0 then -103 else tnS σ (3 * v.toNatClampNeg + w.toNatClampNeg)) (-101)
noncomputable def mTold (σ : sg) (k : Int32) : Int32 := cIf (inP 1 4 k) (if gN σ 0 = 0 then -103 else gB σ 7 k.toNatClampNeg) (-101)
set_option maxHeartbeats 4000000 in
set_option maxRecDepth 100000 in
theorem k_X12_follows (l : Launch) (D : va_G) (b z : Nat) {h : qH} {m : Nat} {σ : sg} {s18 s35 : Int64} {s19 s20 s23 s24 : Int32} {f21 f22 : Nat → Int32} (hM : MdO h m σ s18 s19 s20 s23 s24 s35) (hR : MdR D h m σ f21 f22) (h0 : gN σ 0 ≤ 1) (v w : Int32) : qMi l D b yX12_follows cX12_follows 3 .int 2 42 [.ref (m), .int (v), .int (w)] h z (fun r0 h' => r0 = mFollows σ v w ∧ h' = h) := by
  refine q_i (L := [(0, .ref (m)), (1, .int (v)), (2, .int (w))]) (own := RX12) (by decide) rfl (Nat.le_of_ble_eq_true rfl) rfl ?_
  intro X C ret
  refine g_iload_n C 1 dX12_follows_0 rfl rfl rfl ?_
  refine g_callSi C (As := [.int (v)]) (k_X12_isWeather l D b z h (v)) hw_12_101 (by decide) rfl rfl (Nat.le_of_ble_eq_true rfl) ⟨Nat.zero_le _, Nat.zero_le _⟩ dX12_follows_1 (pc' := 4) rfl ?_
  rintro r1 h9 ⟨⟨er, hp1⟩ | ⟨er, hp1⟩, e9⟩
  · subst h9; subst er
    have hp1_ := hp1
    obtain ⟨i, rfl, hp1a, hp1b⟩ := hp1_
    refine g_if_eq C dX12_follows_4 (tgt := 14) (by decide) (pc' := 7) rfl (fun c4 => absurd c4 (by decide)) (fun _ => ?_)
    refine g_iload_n C 2 dX12_follows_7 rfl rfl rfl ?_
    refine g_callSi C (As := [.int (w)]) (k_X12_isWeather l D b z h (w)) hw_12_101 (by decide) rfl rfl (Nat.le_of_ble_eq_true rfl) ⟨Nat.zero_le _, Nat.zero_le _⟩ dX12_follows_8 (pc' := 11) rfl ?_
    rintro r2 h9 ⟨⟨er, hp8⟩ | ⟨er, hp8⟩, e9⟩
    · subst h9; subst er
      have hp8_ := hp8
      obtain ⟨j, rfl, hp8a, hp8b⟩ := hp8_
      refine g_if_ne C dX12_follows_11 (tgt := 17) (by decide) (pc' := 14) rfl (fun _ => ?_) (fun c11 => absurd c11 (by decide))
      refine g_aload_n C 0 dX12_follows_17 rfl rfl rfl ?_
      refine gf_12_82 C (hM) (v := .int (nI (gN (σ) 0))) rfl dX12_follows_18 rfl ?_
      refine g_if_eq C dX12_follows_21 (tgt := 37) (by decide) (pc' := 24) rfl ?_ ?_
      · intro c21
        replace c21 := (nI_eq (a := gN (σ) 0) (b := 0) (by omega) (by omega)).mp c21
        refine g_bipush C (v := -103) dX12_follows_37 (by decide) rfl ?_
        exact ret _ _ _ _ dX12_follows_39 rfl (⟨by unfold mFollows; rw [cIf_t ⟨hp1, hp8⟩, if_pos c21], rfl⟩)
      · intro c21
        replace c21 := (not_congr (nI_eq (a := gN (σ) 0) (b := 0) (by omega) (by omega))).mp c21
        refine g_aload_n C 0 dX12_follows_24 rfl rfl rfl ?_
        refine gf_12_7 C (hM) (v := .ref (m + 1)) rfl dX12_follows_25 rfl ?_
        refine g_iconst C (v := 3) dX12_follows_28 (by decide) rfl ?_
        refine g_iload_n C 1 dX12_follows_29 rfl rfl rfl ?_
        refine g_imul C dX12_follows_30 rfl ?_
        refine g_topi (y := nI (3 * i)) (pk_mul _ _) ?_
        refine g_iload_n C 2 dX12_follows_31 rfl rfl rfl ?_
        refine g_iadd C dX12_follows_32 rfl ?_
        refine g_topi (y := nI ((3 * i) + j)) (nI_add _ _) ?_
        refine g_iald' C (hR.1) (j := ((3 * i) + j)) rfl (by omega) (by decide) dX12_follows_33 rfl ?_
        refine g_goto C dX12_follows_34 (tgt := 39) (by decide) ?_
        exact ret _ _ _ _ dX12_follows_39 rfl (⟨by unfold mFollows; rw [cIf_t ⟨hp1, hp8⟩, if_neg c21, nIc (by omega), nIc (by omega)], rfl⟩)
    · subst h9; subst er
      refine g_if_ne C dX12_follows_11 (tgt := 17) (by decide) (pc' := 14) rfl (fun c11 => absurd (by decide) c11) (fun _ => ?_)
      refine g_bipush C (v := -101) dX12_follows_14 (by decide) rfl ?_
      exact ret _ _ _ _ dX12_follows_16 rfl (⟨by unfold mFollows; rw [cIf_f (fun g => hp8 g.2)], rfl⟩)
  · subst h9; subst er
    refine g_if_eq C dX12_follows_4 (tgt := 14) (by decide) (pc' := 7) rfl (fun _ => ?_) (fun c4 => absurd (by decide) c4)
    refine g_bipush C (v := -101) dX12_follows_14 (by decide) rfl ?_
    exact ret _ _ _ _ dX12_follows_16 rfl (⟨by unfold mFollows; rw [cIf_f (fun g => hp1 g.1)], rfl⟩)
set_option maxHeartbeats 4000000 in
set_option maxRecDepth 100000 in
theorem k_X12_told (l : Launch) (D : va_G) (b z : Nat) {h : qH} {m : Nat} {σ : sg} {s18 s35 : Int64} {s19 s20 s23 s24 : Int32} {f21 f22 : Nat → Int32} (hM : MdO h m σ s18 s19 s20 s23 s24 s35) (hR : MdR D h m σ f21 f22) (h0 : gN σ 0 ≤ 1) (k : Int32) : qMi l D b yX12_told cX12_told 2 .int 1 22 [.ref (m), .int (k)] h z (fun r0 h' => r0 = mTold σ k ∧ h' = h) := by
  refine q_i (L := [(0, .ref (m)), (1, .int (k))]) (own := RX12) (by decide) rfl (Nat.le_of_ble_eq_true rfl) rfl ?_
  intro X C ret
  refine g_iload_n C 1 dX12_told_0 rfl rfl rfl ?_
  refine g_iconst C (v := 1) dX12_told_1 (by decide) rfl ?_
  refine g_iconst C (v := 4) dX12_told_2 (by decide) rfl ?_
  refine g_callSi C (As := [.int (k), .int (1), .int (4)]) (k_X12_within l D b z h (k) (1) (4)) hw_12_56 (by decide) rfl rfl (Nat.le_of_ble_eq_true rfl) ⟨Nat.zero_le _, Nat.zero_le _⟩ dX12_told_3 (pc' := 6) rfl ?_
  rintro r1 h9 ⟨⟨er, hp3⟩ | ⟨er, hp3⟩, e9⟩
  · subst h9; subst er
    have hp3 := (wit_in (lo := 1) (hi := 4) (x := k) (by decide) (by decide)).mp hp3
    have hp3_ := hp3
    obtain ⟨i, rfl, hp3a, hp3b⟩ := hp3_
    refine g_if_ne C dX12_told_6 (tgt := 12) (by decide) (pc' := 9) rfl (fun _ => ?_) (fun c6 => absurd c6 (by decide))
    refine g_aload_n C 0 dX12_told_12 rfl rfl rfl ?_
    refine gf_12_82 C (hM) (v := .int (nI (gN (σ) 0))) rfl dX12_told_13 rfl ?_
    refine g_if_eq C dX12_told_16 (tgt := 28) (by decide) (pc' := 19) rfl ?_ ?_
    · intro c16
      replace c16 := (nI_eq (a := gN (σ) 0) (b := 0) (by omega) (by omega)).mp c16
      refine g_bipush C (v := -103) dX12_told_28 (by decide) rfl ?_
      exact ret _ _ _ _ dX12_told_30 rfl (⟨by unfold mTold; rw [cIf_t hp3, if_pos c16], rfl⟩)
    · intro c16
      replace c16 := (not_congr (nI_eq (a := gN (σ) 0) (b := 0) (by omega) (by omega))).mp c16
      refine g_aload_n C 0 dX12_told_19 rfl rfl rfl ?_
      refine gf_12_13 C (hM) (v := .ref (m + 2)) rfl dX12_told_20 rfl ?_
      refine g_iload_n C 1 dX12_told_23 rfl rfl rfl ?_
      refine g_iald' C (hR.2.1) (j := i) rfl (by omega) (by decide) dX12_told_24 rfl ?_
      refine g_goto C dX12_told_25 (tgt := 30) (by decide) ?_
      exact ret _ _ _ _ dX12_told_30 rfl (⟨by unfold mTold; rw [cIf_t hp3, if_neg c16, nIc (by omega)], rfl⟩)
  · subst h9; subst er
    have hp3 := (not_congr (wit_in (lo := 1) (hi := 4) (x := k) (by decide) (by decide))).mp hp3
    refine g_if_ne C dX12_told_6 (tgt := 12) (by decide) (pc' := 9) rfl (fun c6 => absurd (by decide) c6) (fun _ => ?_)
    refine g_bipush C (v := -101) dX12_told_9 (by decide) rfl ?_
    exact ret _ _ _ _ dX12_told_11 rfl (⟨by unfold mTold; rw [cIf_f hp3], rfl⟩)
set_option maxHeartbeats 4000000 in
set_option maxRecDepth 100000 in
theorem k_X12_toldMany (l : Launch) (D : va_G) (b z : Nat) {h : qH} {m : Nat} {σ : sg} {s18 s35 : Int64} {s19 s20 s23 s24 : Int32} {f21 f22 : Nat → Int32} (hM : MdO h m σ s18 s19 s20 s23 s24 s35) (hR : MdR D h m σ f21 f22)  : qMi l D b yX12_toldMany cX12_toldMany 3 .int 0 0 [.ref (m)] h z (fun r0 h' => r0 = nI (cntR (gB σ 7) 4) ∧ h' = h) := by
  refine q_i (L := [(0, .ref (m))]) (own := RX12) (by decide) rfl (Nat.le_of_ble_eq_true rfl) rfl ?_
  intro X C ret
  refine g_iconst C (v := 0) dX12_toldMany_0 (by decide) rfl ?_
  refine g_istore_n C ([(1, .int (0)), (0, .ref (m))]) dX12_toldMany_1 rfl (by decide) rfl rfl ?_
  refine g_iconst C (v := 1) dX12_toldMany_2 (by decide) rfl ?_
  refine g_istore_n C ([(2, .int (1)), (1, .int (0)), (0, .ref (m))]) dX12_toldMany_3 rfl (by decide) rfl rfl ?_
  have loop4 : ∀ (N : Nat) (k : Nat) (c : Nat), 5 - k < N → (1 ≤ k) → (k ≤ 5) → (c = cntR (gB σ 7) (k - 1)) → qG X 0 0 z h 4 [(2, .int (nI (k))), (1, .int (nI (c))), (0, .ref (m))] [] := by
    intro N
    induction N with
    | zero => intro k c hm; exact absurd hm (Nat.not_lt_zero _)
    | succ N ih4 =>
      intro k c hm hk1 hk hc
      refine g_iload_n C 0 dX12_toldMany_4 rfl rfl rfl ?_
      refine g_iconst C (v := 4) dX12_toldMany_5 (by decide) rfl ?_
      refine g_icmp_gt C dX12_toldMany_6 (tgt := 33) (by decide) (pc' := 9) rfl ?_ ?_
      · intro c6
        replace c6 := (nI_ltI (a := 4) (b := k) (by omega) (by omega)).mp c6
        refine g_iload_n C 1 dX12_toldMany_33 rfl rfl rfl ?_
        exact ret _ _ _ _ dX12_toldMany_34 rfl (⟨by rw [hc, show k = 5 by omega], rfl⟩)
      · intro c6
        replace c6 := (not_congr (nI_ltI (a := 4) (b := k) (by omega) (by omega))).mp c6
        refine g_iload_n C 1 dX12_toldMany_9 rfl rfl rfl ?_
        refine g_aload_n C 2 dX12_toldMany_10 rfl rfl rfl ?_
        refine gf_12_13 C (hM) (v := .ref (m + 2)) rfl dX12_toldMany_11 rfl ?_
        refine g_iload_n C 0 dX12_toldMany_14 rfl rfl rfl ?_
        refine g_iald' C (hR.2.1) (j := k) rfl (by omega) (by decide) dX12_toldMany_15 rfl ?_
        refine g_iconst C (v := -1) dX12_toldMany_16 (by decide) rfl ?_
        refine g_icmp_ne C dX12_toldMany_17 (tgt := 24) (by decide) (pc' := 20) rfl ?_ ?_
        · intro c17
          refine g_iconst C (v := 1) dX12_toldMany_24 (by decide) rfl ?_
          refine g_iadd C dX12_toldMany_25 rfl ?_
          refine g_topi (y := nI (c + 1)) (nI_1 c) ?_
          refine g_istore_n C ([(1, .int (nI (c + 1))), (2, .int (nI (k))), (0, .ref (m))]) dX12_toldMany_26 rfl (by decide) rfl rfl ?_
          refine g_iinc C (v := nI (k + 1)) 1 ([(2, .int (nI (k + 1))), (1, .int (nI (c + 1))), (0, .ref (m))]) dX12_toldMany_27 rfl (nI_1 _) (by decide) rfl rfl ?_
          refine g_goto C dX12_toldMany_30 (tgt := 4) (by decide) ?_
          exact ih4 (k + 1) (c + 1) (by omega) (by omega) (by omega) (by rw [show k + 1 - 1 = (k - 1) + 1 by omega]; simp only [cntR]; rw [show k - 1 + 1 = k by omega, if_neg c17, hc])
        · intro c17
          refine g_iconst C (v := 0) dX12_toldMany_20 (by decide) rfl ?_
          refine g_goto C dX12_toldMany_21 (tgt := 25) (by decide) ?_
          refine g_iadd C dX12_toldMany_25 rfl ?_
          refine g_topi (y := nI (c + 0)) (nI_add c 0) ?_
          refine g_istore_n C ([(1, .int (nI (c + 0))), (2, .int (nI (k))), (0, .ref (m))]) dX12_toldMany_26 rfl (by decide) rfl rfl ?_
          refine g_iinc C (v := nI (k + 1)) 1 ([(2, .int (nI (k + 1))), (1, .int (nI (c + 0))), (0, .ref (m))]) dX12_toldMany_27 rfl (nI_1 _) (by decide) rfl rfl ?_
          refine g_goto C dX12_toldMany_30 (tgt := 4) (by decide) ?_
          exact ih4 (k + 1) (c + 0) (by omega) (by omega) (by omega) (by rw [show k + 1 - 1 = (k - 1) + 1 by omega]; simp only [cntR]; rw [show k - 1 + 1 = k by omega, if_pos c17, hc])
  exact loop4 _ (1) (0) (Nat.lt_succ_self _) (by omega) (by omega) (rfl)
def mcS (σ : sg) (p : Nat) : Prop := if kdS σ p = 1 then ¬ (gB σ 11 p).toInt64 * wgC σ 1 1 ≤ (gB σ 10 p).toInt64 * wgC σ 1 (-1) else if kdS σ p = 2 then wgC σ 1 1 = wgC σ 1 (-1) else if kdS σ p = 3 then ¬ gB σ 7 1 = 1 else if kdS σ p = 4 then (¬ gB σ 7 1 = 1 ∧ ¬ gB σ 7 1 = -1) else gB σ 7 1 = 1
set_option maxHeartbeats 4000000 in
set_option maxRecDepth 100000 in
theorem k_X12_covers (l : Launch) (D : va_G) (b z : Nat) {h : qH} {m : Nat} {σ : sg} {s18 s35 : Int64} {s19 s20 s23 s24 : Int32} {f21 f22 : Nat → Int32} (hM : MdO h m σ s18 s19 s20 s23 s24 s35) (hR : MdR D h m σ f21 f22) (h6 : gN σ 6 < 3) {p : Nat} (hp : p < 4) : qMi l D b yX12_covers cX12_covers 3 .boolean 3 74 [.ref (m), .int (nI (p))] h z (fun r h' => ((r = 1 ∧ mcS σ p) ∨ (r = 0 ∧ ¬ mcS σ p)) ∧ h' = h) := by
  refine q_i (L := [(0, .ref (m)), (1, .int (nI (p)))]) (own := RX12) (by decide) rfl (Nat.le_of_ble_eq_true rfl) rfl ?_
  intro X C ret
  refine g_aload_n C 0 dX12_covers_0 rfl rfl rfl ?_
  refine gf_12_13 C (hM) (v := .ref (m + 2)) rfl dX12_covers_1 rfl ?_
  refine g_iconst C (v := 1) dX12_covers_4 (by decide) rfl ?_
  refine g_iald' C (hR.2.1) (j := 1) rfl (by omega) (by decide) dX12_covers_5 rfl ?_
  refine g_istore_n C ([(2, .int (gB (σ) 7 (1))), (0, .ref (m)), (1, .int (nI (p)))]) dX12_covers_6 rfl (by decide) rfl rfl ?_
  refine g_aload_n C 1 dX12_covers_7 rfl rfl rfl ?_
  refine gf_12_16 C (hM) (v := .ref (m + 3)) rfl dX12_covers_8 rfl ?_
  refine g_iload_n C 2 dX12_covers_11 rfl rfl rfl ?_
  refine g_iald' C (hR.2.2.1) (j := p) rfl (by omega) (by decide) dX12_covers_12 rfl ?_
  by_cases c13_0 : (kdS (σ) (p)) = 1
  · refine g_tableIn C dX12_covers_13 (off := 31) (tgt := 44) (by rw [c13_0]; decide) (by rw [c13_0]; decide) (by rw [c13_0]; decide) (by decide) ?_
    refine g_aload_n C 1 dX12_covers_44 rfl rfl rfl ?_
    refine gf_12_22 C (hM) (v := .ref (m + 5)) rfl dX12_covers_45 rfl ?_
    refine g_iload_n C 2 dX12_covers_48 rfl rfl rfl ?_
    refine g_iald' C (hR.2.2.2.2.1) (j := p) rfl (by omega) (by decide) dX12_covers_49 rfl ?_
    refine g_i2l C dX12_covers_50 rfl ?_
    refine g_aload_n C 1 dX12_covers_51 rfl rfl rfl ?_
    refine g_iconst C (v := 1) dX12_covers_52 (by decide) rfl ?_
    refine g_iconst C (v := 1) dX12_covers_53 (by decide) rfl ?_
    refine g_callVl C (As := [.int (1), .int (1)]) (q := (RX12, TX12, 36)) (k_X12_weightOf l D b z hM hR h6 (a := 1) (by omega) (1)) hw_12_115 (hM) rfl (by decide) rfl rfl (Nat.le_of_ble_eq_true rfl) ⟨Nat.zero_le _, Nat.zero_le _⟩ dX12_covers_54 (pc' := 57) rfl ?_
    rintro r1 h9 ⟨er, e9⟩
    subst h9; subst er
    refine g_lmul C dX12_covers_57 rfl ?_
    refine g_aload_n C 1 dX12_covers_58 rfl rfl rfl ?_
    refine gf_12_19 C (hM) (v := .ref (m + 4)) rfl dX12_covers_59 rfl ?_
    refine g_iload_n C 2 dX12_covers_62 rfl rfl rfl ?_
    refine g_iald' C (hR.2.2.2.1) (j := p) rfl (by omega) (by decide) dX12_covers_63 rfl ?_
    refine g_i2l C dX12_covers_64 rfl ?_
    refine g_aload_n C 1 dX12_covers_65 rfl rfl rfl ?_
    refine g_iconst C (v := 1) dX12_covers_66 (by decide) rfl ?_
    refine g_iconst C (v := -1) dX12_covers_67 (by decide) rfl ?_
    refine g_callVl C (As := [.int (1), .int ((-1))]) (q := (RX12, TX12, 36)) (k_X12_weightOf l D b z hM hR h6 (a := 1) (by omega) ((-1))) hw_12_115 (hM) rfl (by decide) rfl rfl (Nat.le_of_ble_eq_true rfl) ⟨Nat.zero_le _, Nat.zero_le _⟩ dX12_covers_68 (pc' := 71) rfl ?_
    rintro r2 h9 ⟨er, e9⟩
    subst h9; subst er
    refine g_lmul C dX12_covers_71 rfl ?_
    refine g_lcmp C dX12_covers_72 rfl ?_
    refine g_if_le C dX12_covers_73 (tgt := 80) (by decide) (pc' := 76) rfl ?_ ?_
    · intro c73
      replace c73 := (lg_cmp_le _ _).mp c73
      refine g_iconst C (v := 0) dX12_covers_80 (by decide) rfl ?_
      exact ret _ _ _ _ dX12_covers_81 rfl (⟨Or.inr ⟨rfl, by unfold mcS; rw [if_pos c13_0]; exact fun g => g c73⟩, rfl⟩)
    · intro c73
      replace c73 := (not_congr (lg_cmp_le _ _)).mp c73
      refine g_iconst C (v := 1) dX12_covers_76 (by decide) rfl ?_
      refine g_goto C dX12_covers_77 (tgt := 81) (by decide) ?_
      exact ret _ _ _ _ dX12_covers_81 rfl (⟨Or.inl ⟨rfl, by unfold mcS; rw [if_pos c13_0]; exact c73⟩, rfl⟩)
  by_cases c13_1 : (kdS (σ) (p)) = 2
  · refine g_tableIn C dX12_covers_13 (off := 69) (tgt := 82) (by rw [c13_1]; decide) (by rw [c13_1]; decide) (by rw [c13_1]; decide) (by decide) ?_
    refine g_aload_n C 1 dX12_covers_82 rfl rfl rfl ?_
    refine g_iconst C (v := 1) dX12_covers_83 (by decide) rfl ?_
    refine g_iconst C (v := 1) dX12_covers_84 (by decide) rfl ?_
    refine g_callVl C (As := [.int (1), .int (1)]) (q := (RX12, TX12, 36)) (k_X12_weightOf l D b z hM hR h6 (a := 1) (by omega) (1)) hw_12_115 (hM) rfl (by decide) rfl rfl (Nat.le_of_ble_eq_true rfl) ⟨Nat.zero_le _, Nat.zero_le _⟩ dX12_covers_85 (pc' := 88) rfl ?_
    rintro r3 h9 ⟨er, e9⟩
    subst h9; subst er
    refine g_aload_n C 1 dX12_covers_88 rfl rfl rfl ?_
    refine g_iconst C (v := 1) dX12_covers_89 (by decide) rfl ?_
    refine g_iconst C (v := -1) dX12_covers_90 (by decide) rfl ?_
    refine g_callVl C (As := [.int (1), .int ((-1))]) (q := (RX12, TX12, 36)) (k_X12_weightOf l D b z hM hR h6 (a := 1) (by omega) ((-1))) hw_12_115 (hM) rfl (by decide) rfl rfl (Nat.le_of_ble_eq_true rfl) ⟨Nat.zero_le _, Nat.zero_le _⟩ dX12_covers_91 (pc' := 94) rfl ?_
    rintro r4 h9 ⟨er, e9⟩
    subst h9; subst er
    refine g_lcmp C dX12_covers_94 rfl ?_
    refine g_if_ne C dX12_covers_95 (tgt := 102) (by decide) (pc' := 98) rfl ?_ ?_
    · intro c95
      replace c95 := (not_congr (lg_cmp_eq _ _)).mp c95
      refine g_iconst C (v := 0) dX12_covers_102 (by decide) rfl ?_
      exact ret _ _ _ _ dX12_covers_103 rfl (⟨Or.inr ⟨rfl, by unfold mcS; rw [if_neg c13_0, if_pos c13_1]; exact c95⟩, rfl⟩)
    · intro c95
      replace c95 := (lg_cmp_eq _ _).mp c95
      refine g_iconst C (v := 1) dX12_covers_98 (by decide) rfl ?_
      refine g_goto C dX12_covers_99 (tgt := 103) (by decide) ?_
      exact ret _ _ _ _ dX12_covers_103 rfl (⟨Or.inl ⟨rfl, by unfold mcS; rw [if_neg c13_0, if_pos c13_1]; exact c95⟩, rfl⟩)
  by_cases c13_2 : (kdS (σ) (p)) = 3
  · refine g_tableIn C dX12_covers_13 (off := 91) (tgt := 104) (by rw [c13_2]; decide) (by rw [c13_2]; decide) (by rw [c13_2]; decide) (by decide) ?_
    refine g_iload_n C 0 dX12_covers_104 rfl rfl rfl ?_
    refine g_iconst C (v := 1) dX12_covers_105 (by decide) rfl ?_
    refine g_icmp_eq C dX12_covers_106 (tgt := 113) (by decide) (pc' := 109) rfl ?_ ?_
    · intro c106
      refine g_iconst C (v := 0) dX12_covers_113 (by decide) rfl ?_
      exact ret _ _ _ _ dX12_covers_114 rfl (⟨Or.inr ⟨rfl, by unfold mcS; rw [if_neg c13_0, if_neg c13_1, if_pos c13_2]; exact fun g => g c106⟩, rfl⟩)
    · intro c106
      refine g_iconst C (v := 1) dX12_covers_109 (by decide) rfl ?_
      refine g_goto C dX12_covers_110 (tgt := 114) (by decide) ?_
      exact ret _ _ _ _ dX12_covers_114 rfl (⟨Or.inl ⟨rfl, by unfold mcS; rw [if_neg c13_0, if_neg c13_1, if_pos c13_2]; exact c106⟩, rfl⟩)
  by_cases c13_3 : (kdS (σ) (p)) = 4
  · refine g_tableIn C dX12_covers_13 (off := 102) (tgt := 115) (by rw [c13_3]; decide) (by rw [c13_3]; decide) (by rw [c13_3]; decide) (by decide) ?_
    refine g_iload_n C 0 dX12_covers_115 rfl rfl rfl ?_
    refine g_iconst C (v := 1) dX12_covers_116 (by decide) rfl ?_
    refine g_icmp_eq C dX12_covers_117 (tgt := 129) (by decide) (pc' := 120) rfl ?_ ?_
    · intro c117
      refine g_iconst C (v := 0) dX12_covers_129 (by decide) rfl ?_
      exact ret _ _ _ _ dX12_covers_130 rfl (⟨Or.inr ⟨rfl, by unfold mcS; rw [if_neg c13_0, if_neg c13_1, if_neg c13_2, if_pos c13_3]; exact fun g => g.1 c117⟩, rfl⟩)
    · intro c117
      refine g_iload_n C 0 dX12_covers_120 rfl rfl rfl ?_
      refine g_iconst C (v := -1) dX12_covers_121 (by decide) rfl ?_
      refine g_icmp_eq C dX12_covers_122 (tgt := 129) (by decide) (pc' := 125) rfl ?_ ?_
      · intro c122
        refine g_iconst C (v := 0) dX12_covers_129 (by decide) rfl ?_
        exact ret _ _ _ _ dX12_covers_130 rfl (⟨Or.inr ⟨rfl, by unfold mcS; rw [if_neg c13_0, if_neg c13_1, if_neg c13_2, if_pos c13_3]; exact fun g => g.2 c122⟩, rfl⟩)
      · intro c122
        refine g_iconst C (v := 1) dX12_covers_125 (by decide) rfl ?_
        refine g_goto C dX12_covers_126 (tgt := 130) (by decide) ?_
        exact ret _ _ _ _ dX12_covers_130 rfl (⟨Or.inl ⟨rfl, by unfold mcS; rw [if_neg c13_0, if_neg c13_1, if_neg c13_2, if_pos c13_3]; exact ⟨c117, c122⟩⟩, rfl⟩)
  refine g_tableOut C dX12_covers_13 (tgt := 131) (swo_1_4 c13_0 c13_1 c13_2 c13_3) (by decide) ?_
  refine g_iload_n C 0 dX12_covers_131 rfl rfl rfl ?_
  refine g_iconst C (v := 1) dX12_covers_132 (by decide) rfl ?_
  refine g_icmp_ne C dX12_covers_133 (tgt := 140) (by decide) (pc' := 136) rfl ?_ ?_
  · intro c133
    refine g_iconst C (v := 0) dX12_covers_140 (by decide) rfl ?_
    exact ret _ _ _ _ dX12_covers_141 rfl (⟨Or.inr ⟨rfl, by unfold mcS; rw [if_neg c13_0, if_neg c13_1, if_neg c13_2, if_neg c13_3]; exact c133⟩, rfl⟩)
  · intro c133
    refine g_iconst C (v := 1) dX12_covers_136 (by decide) rfl ?_
    refine g_goto C dX12_covers_137 (tgt := 141) (by decide) ?_
    exact ret _ _ _ _ dX12_covers_141 rfl (⟨Or.inl ⟨rfl, by unfold mcS; rw [if_neg c13_0, if_neg c13_1, if_neg c13_2, if_neg c13_3]; exact c133⟩, rfl⟩)
noncomputable def mPer (σ : sg) (p : Nat) (w : Int32) : Int32 := if w = 0 then kdS σ p else if w = 1 then gB σ 10 p else if w = 2 then gB σ 11 p else if w = 3 then gB σ 12 p else cIf (mcS σ p) 1 0
noncomputable def mAbout (σ : sg) (v w : Int32) : Int32 := cIf (isPe σ v) (cIf (inP 0 4 w) (mPer σ v.toNatClampNeg w) (-102)) (-101)
noncomputable def mAs (σ : sg) (v k : Int32) : Int32 := cIf (isPe σ v) (cIf (inP 0 4 k) (if k = 0 then v else if kdS σ v.toNatClampNeg = k then v else if k = 3 then (if kdS σ v.toNatClampNeg = 4 then v else -1) else -1) (-102)) (-101)
set_option maxHeartbeats 4000000 in
set_option maxRecDepth 100000 in
theorem k_X12_personNow (l : Launch) (D : va_G) (b z : Nat) {h : qH} {m : Nat} {σ : sg} {s18 s35 : Int64} {s19 s20 s23 s24 : Int32} {f21 f22 : Nat → Int32} (hM : MdO h m σ s18 s19 s20 s23 s24 s35) (hR : MdR D h m σ f21 f22) (h6 : gN σ 6 < 3) {p : Nat} (hp : p < 4) (w : Int32) : qMi l D b yX12_personNow cX12_personNow 3 .int 4 96 [.ref (m), .int (nI (p)), .int (w)] h z (fun r0 h' => r0 = mPer σ p w ∧ h' = h) := by
  refine q_i (L := [(0, .ref (m)), (1, .int (nI (p))), (2, .int (w))]) (own := RX12) (by decide) rfl (Nat.le_of_ble_eq_true rfl) rfl ?_
  intro X C ret
  refine g_iload_n C 2 dX12_personNow_0 rfl rfl rfl ?_
  by_cases c1_0 : (w) = 0
  · refine g_tableIn C dX12_personNow_1 (off := 31) (tgt := 32) (by rw [c1_0]; decide) (by rw [c1_0]; decide) (by rw [c1_0]; decide) (by decide) ?_
    refine g_aload_n C 0 dX12_personNow_32 rfl rfl rfl ?_
    refine gf_12_16 C (hM) (v := .ref (m + 3)) rfl dX12_personNow_33 rfl ?_
    refine g_iload_n C 1 dX12_personNow_36 rfl rfl rfl ?_
    refine g_iald' C (hR.2.2.1) (j := p) rfl (by omega) (by decide) dX12_personNow_37 rfl ?_
    exact ret _ _ _ _ dX12_personNow_38 rfl (⟨by unfold mPer; simp only [if_pos c1_0]; first | done | rfl, rfl⟩)
  by_cases c1_1 : (w) = 1
  · refine g_tableIn C dX12_personNow_1 (off := 38) (tgt := 39) (by rw [c1_1]; decide) (by rw [c1_1]; decide) (by rw [c1_1]; decide) (by decide) ?_
    refine g_aload_n C 0 dX12_personNow_39 rfl rfl rfl ?_
    refine gf_12_19 C (hM) (v := .ref (m + 4)) rfl dX12_personNow_40 rfl ?_
    refine g_iload_n C 1 dX12_personNow_43 rfl rfl rfl ?_
    refine g_iald' C (hR.2.2.2.1) (j := p) rfl (by omega) (by decide) dX12_personNow_44 rfl ?_
    exact ret _ _ _ _ dX12_personNow_45 rfl (⟨by unfold mPer; simp only [if_neg c1_0, if_pos c1_1]; first | done | rfl, rfl⟩)
  by_cases c1_2 : (w) = 2
  · refine g_tableIn C dX12_personNow_1 (off := 45) (tgt := 46) (by rw [c1_2]; decide) (by rw [c1_2]; decide) (by rw [c1_2]; decide) (by decide) ?_
    refine g_aload_n C 0 dX12_personNow_46 rfl rfl rfl ?_
    refine gf_12_22 C (hM) (v := .ref (m + 5)) rfl dX12_personNow_47 rfl ?_
    refine g_iload_n C 1 dX12_personNow_50 rfl rfl rfl ?_
    refine g_iald' C (hR.2.2.2.2.1) (j := p) rfl (by omega) (by decide) dX12_personNow_51 rfl ?_
    exact ret _ _ _ _ dX12_personNow_52 rfl (⟨by unfold mPer; simp only [if_neg c1_0, if_neg c1_1, if_pos c1_2]; first | done | rfl, rfl⟩)
  by_cases c1_3 : (w) = 3
  · refine g_tableIn C dX12_personNow_1 (off := 52) (tgt := 53) (by rw [c1_3]; decide) (by rw [c1_3]; decide) (by rw [c1_3]; decide) (by decide) ?_
    refine g_aload_n C 0 dX12_personNow_53 rfl rfl rfl ?_
    refine gf_12_25 C (hM) (v := .ref (m + 6)) rfl dX12_personNow_54 rfl ?_
    refine g_iload_n C 1 dX12_personNow_57 rfl rfl rfl ?_
    refine g_iald' C (hR.2.2.2.2.2.1) (j := p) rfl (by omega) (by decide) dX12_personNow_58 rfl ?_
    exact ret _ _ _ _ dX12_personNow_59 rfl (⟨by unfold mPer; simp only [if_neg c1_0, if_neg c1_1, if_neg c1_2, if_pos c1_3]; first | done | rfl, rfl⟩)
  refine g_tableOut C dX12_personNow_1 (tgt := 60) (swo_0_3 c1_0 c1_1 c1_2 c1_3) (by decide) ?_
  refine g_aload_n C 0 dX12_personNow_60 rfl rfl rfl ?_
  refine g_iload_n C 1 dX12_personNow_61 rfl rfl rfl ?_
  refine g_callVi C (As := [.int (nI (p))]) (q := (RX12, TX12, 36)) (k_X12_covers l D b z hM hR h6 (p := p) (by omega)) hw_12_122 (hM) rfl (by decide) rfl rfl (Nat.le_of_ble_eq_true rfl) ⟨Nat.zero_le _, Nat.zero_le _⟩ dX12_personNow_62 (pc' := 65) rfl ?_
  rintro r1 h9 ⟨⟨er, hp62⟩ | ⟨er, hp62⟩, e9⟩
  · subst h9; subst er
    refine g_if_eq C dX12_personNow_65 (tgt := 72) (by decide) (pc' := 68) rfl (fun c65 => absurd c65 (by decide)) (fun _ => ?_)
    refine g_iconst C (v := 1) dX12_personNow_68 (by decide) rfl ?_
    refine g_goto C dX12_personNow_69 (tgt := 73) (by decide) ?_
    exact ret _ _ _ _ dX12_personNow_73 rfl (⟨by unfold mPer; simp only [if_neg c1_0, if_neg c1_1, if_neg c1_2, if_neg c1_3, cIf_t hp62]; first | done | rfl, rfl⟩)
  · subst h9; subst er
    refine g_if_eq C dX12_personNow_65 (tgt := 72) (by decide) (pc' := 68) rfl (fun _ => ?_) (fun c65 => absurd (by decide) c65)
    refine g_iconst C (v := 0) dX12_personNow_72 (by decide) rfl ?_
    exact ret _ _ _ _ dX12_personNow_73 rfl (⟨by unfold mPer; simp only [if_neg c1_0, if_neg c1_1, if_neg c1_2, if_neg c1_3, cIf_f hp62]; first | done | rfl, rfl⟩)
set_option maxHeartbeats 4000000 in
set_option maxRecDepth 100000 in
theorem k_X12_about (l : Launch) (D : va_G) (b z : Nat) {h : qH} {m : Nat} {σ : sg} {s18 s35 : Int64} {s19 s20 s23 s24 : Int32} {f21 f22 : Nat → Int32} (hM : MdO h m σ s18 s19 s20 s23 s24 s35) (hR : MdR D h m σ f21 f22) (h6 : gN σ 6 < 3) (h8 : gN σ 8 ≤ 4) (v w : Int32) : qMi l D b yX12_about cX12_about 3 .int 5 118 [.ref (m), .int (v), .int (w)] h z (fun r0 h' => r0 = mAbout σ v w ∧ h' = h) := by
  refine q_i (L := [(0, .ref (m)), (1, .int (v)), (2, .int (w))]) (own := RX12) (by decide) rfl (Nat.le_of_ble_eq_true rfl) rfl ?_
  intro X C ret
  refine g_aload_n C 0 dX12_about_0 rfl rfl rfl ?_
  refine g_iload_n C 1 dX12_about_1 rfl rfl rfl ?_
  refine g_callVi C (As := [.int (v)]) (q := (RX12, TX12, 36)) (k_X12_isPerson l D b z hM hR h8 (v)) hw_12_129 (hM) rfl (by decide) rfl rfl (Nat.le_of_ble_eq_true rfl) ⟨Nat.zero_le _, Nat.zero_le _⟩ dX12_about_2 (pc' := 5) rfl ?_
  rintro r1 h9 ⟨⟨er, hp2⟩ | ⟨er, hp2⟩, e9⟩
  · subst h9; subst er
    have hp2_ := hp2
    obtain ⟨p, rfl, hpn⟩ := hp2_
    have hp4 : p < 4 := by omega
    refine g_if_ne C dX12_about_5 (tgt := 13) (by decide) (pc' := 8) rfl (fun _ => ?_) (fun c5 => absurd c5 (by decide))
    refine g_iload_n C 2 dX12_about_13 rfl rfl rfl ?_
    refine g_iconst C (v := 0) dX12_about_14 (by decide) rfl ?_
    refine g_iconst C (v := 4) dX12_about_15 (by decide) rfl ?_
    refine g_callSi C (As := [.int (w), .int (0), .int (4)]) (k_X12_within l D b z h (w) (0) (4)) hw_12_56 (by decide) rfl rfl (Nat.le_of_ble_eq_true rfl) ⟨Nat.zero_le _, Nat.zero_le _⟩ dX12_about_16 (pc' := 19) rfl ?_
    rintro r2 h9 ⟨⟨er, hp16⟩ | ⟨er, hp16⟩, e9⟩
    · subst h9; subst er
      have hp16 := (wit_in (lo := 0) (hi := 4) (x := w) (by decide) (by decide)).mp hp16
      refine g_if_eq C dX12_about_19 (tgt := 31) (by decide) (pc' := 22) rfl (fun c19 => absurd c19 (by decide)) (fun _ => ?_)
      refine g_aload_n C 0 dX12_about_22 rfl rfl rfl ?_
      refine g_iload_n C 1 dX12_about_23 rfl rfl rfl ?_
      refine g_iload_n C 2 dX12_about_24 rfl rfl rfl ?_
      refine g_callVi C (As := [.int (nI (p)), .int (w)]) (q := (RX12, TX12, 36)) (k_X12_personNow l D b z hM hR h6 (p := p) (by omega) (w)) hw_12_132 (hM) rfl (by decide) rfl rfl (Nat.le_of_ble_eq_true rfl) ⟨Nat.zero_le _, Nat.zero_le _⟩ dX12_about_25 (pc' := 28) rfl ?_
      rintro r3 h9 ⟨er, e9⟩
      subst h9; subst er
      refine g_goto C dX12_about_28 (tgt := 33) (by decide) ?_
      exact ret _ _ _ _ dX12_about_33 rfl (⟨by unfold mAbout; rw [cIf_t hp2, cIf_t hp16, nIc (by omega)], rfl⟩)
    · subst h9; subst er
      have hp16 := (not_congr (wit_in (lo := 0) (hi := 4) (x := w) (by decide) (by decide))).mp hp16
      refine g_if_eq C dX12_about_19 (tgt := 31) (by decide) (pc' := 22) rfl (fun _ => ?_) (fun c19 => absurd (by decide) c19)
      refine g_bipush C (v := -102) dX12_about_31 (by decide) rfl ?_
      exact ret _ _ _ _ dX12_about_33 rfl (⟨by unfold mAbout; rw [cIf_t hp2, cIf_f hp16], rfl⟩)
  · subst h9; subst er
    refine g_if_ne C dX12_about_5 (tgt := 13) (by decide) (pc' := 8) rfl (fun c5 => absurd (by decide) c5) (fun _ => ?_)
    refine g_bipush C (v := -101) dX12_about_8 (by decide) rfl ?_
    refine g_goto C dX12_about_10 (tgt := 33) (by decide) ?_
    exact ret _ _ _ _ dX12_about_33 rfl (⟨by unfold mAbout; rw [cIf_f hp2], rfl⟩)
set_option maxHeartbeats 4000000 in
set_option maxRecDepth 100000 in
theorem k_X12_as (l : Launch) (D : va_G) (b z : Nat) {h : qH} {m : Nat} {σ : sg} {s18 s35 : Int64} {s19 s20 s23 s24 : Int32} {f21 f22 : Nat → Int32} (hM : MdO h m σ s18 s19 s20 s23 s24 s35) (hR : MdR D h m σ f21 f22) (h8 : gN σ 8 ≤ 4) (v k : Int32) : qMi l D b yX12_as cX12_as 4 .int 2 43 [.ref (m), .int (v), .int (k)] h z (fun r0 h' => r0 = mAs σ v k ∧ h' = h) := by
  refine q_i (L := [(0, .ref (m)), (1, .int (v)), (2, .int (k))]) (own := RX12) (by decide) rfl (Nat.le_of_ble_eq_true rfl) rfl ?_
  intro X C ret
  refine g_aload_n C 0 dX12_as_0 rfl rfl rfl ?_
  refine g_iload_n C 1 dX12_as_1 rfl rfl rfl ?_
  refine g_callVi C (As := [.int (v)]) (q := (RX12, TX12, 36)) (k_X12_isPerson l D b z hM hR h8 (v)) hw_12_129 (hM) rfl (by decide) rfl rfl (Nat.le_of_ble_eq_true rfl) ⟨Nat.zero_le _, Nat.zero_le _⟩ dX12_as_2 (pc' := 5) rfl ?_
  rintro r1 h9 ⟨⟨er, hp2⟩ | ⟨er, hp2⟩, e9⟩
  · subst h9; subst er
    have hp2_ := hp2
    obtain ⟨p, rfl, hpn⟩ := hp2_
    have hp4 : p < 4 := by omega
    refine g_if_ne C dX12_as_5 (tgt := 11) (by decide) (pc' := 8) rfl (fun _ => ?_) (fun c5 => absurd c5 (by decide))
    refine g_iload_n C 2 dX12_as_11 rfl rfl rfl ?_
    refine g_iconst C (v := 0) dX12_as_12 (by decide) rfl ?_
    refine g_iconst C (v := 4) dX12_as_13 (by decide) rfl ?_
    refine g_callSi C (As := [.int (k), .int (0), .int (4)]) (k_X12_within l D b z h (k) (0) (4)) hw_12_56 (by decide) rfl rfl (Nat.le_of_ble_eq_true rfl) ⟨Nat.zero_le _, Nat.zero_le _⟩ dX12_as_14 (pc' := 17) rfl ?_
    rintro r2 h9 ⟨⟨er, hp14⟩ | ⟨er, hp14⟩, e9⟩
    · subst h9; subst er
      have hp14 := (wit_in (lo := 0) (hi := 4) (x := k) (by decide) (by decide)).mp hp14
      refine g_if_ne C dX12_as_17 (tgt := 23) (by decide) (pc' := 20) rfl (fun _ => ?_) (fun c17 => absurd c17 (by decide))
      refine g_aload_n C 0 dX12_as_23 rfl rfl rfl ?_
      refine gf_12_16 C (hM) (v := .ref (m + 3)) rfl dX12_as_24 rfl ?_
      refine g_iload_n C 1 dX12_as_27 rfl rfl rfl ?_
      refine g_iald' C (hR.2.2.1) (j := p) rfl (by omega) (by decide) dX12_as_28 rfl ?_
      refine g_istore_n C ([(3, .int (kdS (σ) (p))), (0, .ref (m)), (1, .int (nI (p))), (2, .int (k))]) dX12_as_29 rfl (by decide) rfl rfl ?_
      refine g_iload_n C 3 dX12_as_30 rfl rfl rfl ?_
      refine g_if_eq C dX12_as_31 (tgt := 49) (by decide) (pc' := 34) rfl ?_ ?_
      · intro c31
        refine g_iload_n C 2 dX12_as_49 rfl rfl rfl ?_
        refine g_goto C dX12_as_50 (tgt := 54) (by decide) ?_
        exact ret _ _ _ _ dX12_as_54 rfl (⟨by unfold mAs; rw [cIf_t hp2, cIf_t hp14, nIc (by omega), if_pos c31], rfl⟩)
      · intro c31
        refine g_iload_n C 0 dX12_as_34 rfl rfl rfl ?_
        refine g_iload_n C 3 dX12_as_35 rfl rfl rfl ?_
        refine g_icmp_eq C dX12_as_36 (tgt := 49) (by decide) (pc' := 39) rfl ?_ ?_
        · intro c36
          refine g_iload_n C 2 dX12_as_49 rfl rfl rfl ?_
          refine g_goto C dX12_as_50 (tgt := 54) (by decide) ?_
          exact ret _ _ _ _ dX12_as_54 rfl (⟨by unfold mAs; rw [cIf_t hp2, cIf_t hp14, nIc (by omega), if_neg c31, if_pos c36], rfl⟩)
        · intro c36
          refine g_iload_n C 3 dX12_as_39 rfl rfl rfl ?_
          refine g_iconst C (v := 3) dX12_as_40 (by decide) rfl ?_
          refine g_icmp_ne C dX12_as_41 (tgt := 53) (by decide) (pc' := 44) rfl ?_ ?_
          · intro c41
            refine g_iconst C (v := -1) dX12_as_53 (by decide) rfl ?_
            exact ret _ _ _ _ dX12_as_54 rfl (⟨by unfold mAs; rw [cIf_t hp2, cIf_t hp14, nIc (by omega), if_neg c31, if_neg c36, if_neg c41], rfl⟩)
          · intro c41
            refine g_iload_n C 0 dX12_as_44 rfl rfl rfl ?_
            refine g_iconst C (v := 4) dX12_as_45 (by decide) rfl ?_
            refine g_icmp_ne C dX12_as_46 (tgt := 53) (by decide) (pc' := 49) rfl ?_ ?_
            · intro c46
              refine g_iconst C (v := -1) dX12_as_53 (by decide) rfl ?_
              exact ret _ _ _ _ dX12_as_54 rfl (⟨by unfold mAs; rw [cIf_t hp2, cIf_t hp14, nIc (by omega), if_neg c31, if_neg c36, if_pos c41, if_neg c46], rfl⟩)
            · intro c46
              refine g_iload_n C 2 dX12_as_49 rfl rfl rfl ?_
              refine g_goto C dX12_as_50 (tgt := 54) (by decide) ?_
              exact ret _ _ _ _ dX12_as_54 rfl (⟨by unfold mAs; rw [cIf_t hp2, cIf_t hp14, nIc (by omega), if_neg c31, if_neg c36, if_pos c41, if_pos c46], rfl⟩)
    · subst h9; subst er
      have hp14 := (not_congr (wit_in (lo := 0) (hi := 4) (x := k) (by decide) (by decide))).mp hp14
      refine g_if_ne C dX12_as_17 (tgt := 23) (by decide) (pc' := 20) rfl (fun c17 => absurd (by decide) c17) (fun _ => ?_)
      refine g_bipush C (v := -102) dX12_as_20 (by decide) rfl ?_
      exact ret _ _ _ _ dX12_as_22 rfl (⟨by unfold mAs; rw [cIf_t hp2, cIf_f hp14], rfl⟩)
  · subst h9; subst er
    refine g_if_ne C dX12_as_5 (tgt := 11) (by decide) (pc' := 8) rfl (fun c5 => absurd (by decide) c5) (fun _ => ?_)
    refine g_bipush C (v := -101) dX12_as_8 (by decide) rfl ?_
    exact ret _ _ _ _ dX12_as_10 rfl (⟨by unfold mAs; rw [cIf_f hp2], rfl⟩)
def lkB (od : Nat → Int64) : Nat → Int32 × Int64
  | 0 => (-1, -1)
  | c + 1 => if od c ≤ (lkB od c).2 then lkB od c else (nI c, od c)
def wyB (od : Nat → Int64) : Nat → Nat
  | 0 => 0
  | c + 1 => wyB od c + (if od c ≤ 0 then 0 else 1)
def lkM (σ : sg) : Int32 := (lkB (odC σ) 729).1
def wyM (σ : sg) : Nat := wyB (odC σ) 729
set_option maxHeartbeats 4000000 in
set_option maxRecDepth 100000 in
theorem k_X12_likeliestNow (l : Launch) (D : va_G) (b z : Nat) {h : qH} {m : Nat} {σ : sg} {s18 s35 : Int64} {s19 s20 s23 s24 : Int32} {f21 f22 : Nat → Int32} (hM : MdO h m σ s18 s19 s20 s23 s24 s35) (hR : MdR D h m σ f21 f22) (h6 : gN σ 6 < 3) : qMi l D b yX12_likeliestNow cX12_likeliestNow 7 .int 2 49 [.ref (m)] h z (fun r0 h' => r0 = lkM σ ∧ h' = h) := by
  refine q_i (L := [(0, .ref (m))]) (own := RX12) (by decide) rfl (Nat.le_of_ble_eq_true rfl) rfl ?_
  intro X C ret
  refine g_iconst C (v := -1) dX12_likeliestNow_0 (by decide) rfl ?_
  refine g_istore_n C ([(1, .int ((-1))), (0, .ref (m))]) dX12_likeliestNow_1 rfl (by decide) rfl rfl ?_
  refine g_ldc2 C kl_12_149 dX12_likeliestNow_2 rfl ?_
  refine g_lstore_n C ([(2, .long ((-1))), (1, .int ((-1))), (0, .ref (m))]) dX12_likeliestNow_5 rfl (by decide) rfl rfl ?_
  refine g_iconst C (v := 0) dX12_likeliestNow_6 (by decide) rfl ?_
  refine g_istore C ([(4, .int (0)), (2, .long ((-1))), (1, .int ((-1))), (0, .ref (m))]) dX12_likeliestNow_7 (by decide) rfl rfl ?_
  have loop9 : ∀ (N : Nat) (c : Nat) (be : Int32) (mo : Int64), 729 - c < N → (c ≤ 729) → ((be, mo) = lkB (odC σ) c) → qG X 0 0 z h 9 [(4, .int (nI (c))), (2, .long (mo)), (1, .int (be)), (0, .ref (m))] [] := by
    intro N
    induction N with
    | zero => intro c be mo hm; exact absurd hm (Nat.not_lt_zero _)
    | succ N ih9 =>
      intro c be mo hm hc hbm
      refine g_iload C 0 dX12_likeliestNow_9 rfl rfl ?_
      refine g_sipush C (v := 729) dX12_likeliestNow_11 (by decide) rfl ?_
      refine g_icmp_ge C dX12_likeliestNow_14 (tgt := 59) (by decide) (pc' := 17) rfl ?_ ?_
      · intro c14
        replace c14 := (nI_leI (a := 729) (b := c) (by omega) (by omega)).mp c14
        refine g_iload_n C 2 dX12_likeliestNow_59 rfl rfl rfl ?_
        exact ret _ _ _ _ dX12_likeliestNow_60 rfl (⟨by unfold lkM; rw [show c = 729 by omega] at hbm; rw [← hbm], rfl⟩)
      · intro c14
        replace c14 := (not_congr (nI_leI (a := 729) (b := c) (by omega) (by omega))).mp c14
        refine g_aload_n C 3 dX12_likeliestNow_17 rfl rfl rfl ?_
        refine g_iload C 0 dX12_likeliestNow_18 rfl rfl ?_
        refine g_callVl C (As := [.int (nI (c))]) (q := (RX12, TX12, 36)) (k_X12_oddsOf l D b z hM hR h6 (c := c) (by omega)) hw_12_111 (hM) rfl (by decide) rfl rfl (Nat.le_of_ble_eq_true rfl) ⟨Nat.zero_le _, Nat.zero_le _⟩ dX12_likeliestNow_20 (pc' := 23) rfl ?_
        rintro r1 h9 ⟨er, e9⟩
        subst h9; subst er
        refine g_lstore C ([(5, .long (odC σ (c))), (4, .int (nI (c))), (2, .long (mo)), (1, .int (be)), (0, .ref (m))]) dX12_likeliestNow_23 (by decide) rfl rfl ?_
        refine g_lload C 0 dX12_likeliestNow_25 rfl rfl ?_
        refine g_lload_n C 2 dX12_likeliestNow_27 rfl rfl rfl ?_
        refine g_lcmp C dX12_likeliestNow_28 rfl ?_
        refine g_if_le C dX12_likeliestNow_29 (tgt := 37) (by decide) (pc' := 32) rfl ?_ ?_
        · intro c29
          replace c29 := (lg_cmp_le _ _).mp c29
          refine g_iload_n C 3 dX12_likeliestNow_37 rfl rfl rfl ?_
          refine g_istore_n C ([(1, .int (be)), (5, .long (odC σ (c))), (4, .int (nI (c))), (2, .long (mo)), (0, .ref (m))]) dX12_likeliestNow_38 rfl (by decide) rfl rfl ?_
          refine g_lload C 1 dX12_likeliestNow_39 rfl rfl ?_
          refine g_lload_n C 3 dX12_likeliestNow_41 rfl rfl rfl ?_
          refine g_lcmp C dX12_likeliestNow_42 rfl ?_
          refine g_if_le C dX12_likeliestNow_43 (tgt := 51) (by decide) (pc' := 46) rfl ?_ ?_
          · intro c43
            replace c43 := (lg_cmp_le _ _).mp c43
            refine g_lload_n C 3 dX12_likeliestNow_51 rfl rfl rfl ?_
            refine g_lstore_n C ([(2, .long (mo)), (1, .int (be)), (5, .long (odC σ (c))), (4, .int (nI (c))), (0, .ref (m))]) dX12_likeliestNow_52 rfl (by decide) rfl rfl ?_
            refine g_iinc C (v := nI (c + 1)) 3 ([(4, .int (nI (c + 1))), (2, .long (mo)), (1, .int (be)), (5, .long (odC σ (c))), (0, .ref (m))]) dX12_likeliestNow_53 rfl (nI_1 _) (by decide) rfl rfl ?_
            refine g_goto C dX12_likeliestNow_56 (tgt := 9) (by decide) ?_
            refine q_lsub [0, 1, 2, 4] (L' := [(4, .int (nI (c + 1))), (2, .long (mo)), (1, .int (be)), (0, .ref (m))]) rfl ?_
            exact ih9 (c + 1) (be) (mo) (by omega) (by omega) (by simp only [lkB]; rw [← hbm, if_pos c29])
          · intro c43
            replace c43 := (not_congr (lg_cmp_le _ _)).mp c43
            exact absurd c29 c43
        · intro c29
          replace c29 := (not_congr (lg_cmp_le _ _)).mp c29
          refine g_iload C 1 dX12_likeliestNow_32 rfl rfl ?_
          refine g_goto C dX12_likeliestNow_34 (tgt := 38) (by decide) ?_
          refine g_istore_n C ([(1, .int (nI (c))), (5, .long (odC σ (c))), (4, .int (nI (c))), (2, .long (mo)), (0, .ref (m))]) dX12_likeliestNow_38 rfl (by decide) rfl rfl ?_
          refine g_lload C 1 dX12_likeliestNow_39 rfl rfl ?_
          refine g_lload_n C 3 dX12_likeliestNow_41 rfl rfl rfl ?_
          refine g_lcmp C dX12_likeliestNow_42 rfl ?_
          refine g_if_le C dX12_likeliestNow_43 (tgt := 51) (by decide) (pc' := 46) rfl ?_ ?_
          · intro c43
            replace c43 := (lg_cmp_le _ _).mp c43
            exact absurd c43 c29
          · intro c43
            replace c43 := (not_congr (lg_cmp_le _ _)).mp c43
            refine g_lload C 1 dX12_likeliestNow_46 rfl rfl ?_
            refine g_goto C dX12_likeliestNow_48 (tgt := 52) (by decide) ?_
            refine g_lstore_n C ([(2, .long (odC σ (c))), (1, .int (nI (c))), (5, .long (odC σ (c))), (4, .int (nI (c))), (0, .ref (m))]) dX12_likeliestNow_52 rfl (by decide) rfl rfl ?_
            refine g_iinc C (v := nI (c + 1)) 3 ([(4, .int (nI (c + 1))), (2, .long (odC σ (c))), (1, .int (nI (c))), (5, .long (odC σ (c))), (0, .ref (m))]) dX12_likeliestNow_53 rfl (nI_1 _) (by decide) rfl rfl ?_
            refine g_goto C dX12_likeliestNow_56 (tgt := 9) (by decide) ?_
            refine q_lsub [0, 1, 2, 4] (L' := [(4, .int (nI (c + 1))), (2, .long (odC σ (c))), (1, .int (nI (c))), (0, .ref (m))]) rfl ?_
            exact ih9 (c + 1) (nI c) (odC σ c) (by omega) (by omega) (by simp only [lkB]; rw [← hbm, if_neg c29])
  exact loop9 _ (0) (-1) (-1) (Nat.lt_succ_self _) (by omega) (rfl)
set_option maxHeartbeats 4000000 in
set_option maxRecDepth 100000 in
theorem k_X12_waysNow (l : Launch) (D : va_G) (b z : Nat) {h : qH} {m : Nat} {σ : sg} {s18 s35 : Int64} {s19 s20 s23 s24 : Int32} {f21 f22 : Nat → Int32} (hM : MdO h m σ s18 s19 s20 s23 s24 s35) (hR : MdR D h m σ f21 f22) (h6 : gN σ 6 < 3) : qMi l D b yX12_waysNow cX12_waysNow 3 .int 2 49 [.ref (m)] h z (fun r0 h' => r0 = nI (wyM σ) ∧ h' = h) := by
  refine q_i (L := [(0, .ref (m))]) (own := RX12) (by decide) rfl (Nat.le_of_ble_eq_true rfl) rfl ?_
  intro X C ret
  refine g_iconst C (v := 0) dX12_waysNow_0 (by decide) rfl ?_
  refine g_istore_n C ([(1, .int (0)), (0, .ref (m))]) dX12_waysNow_1 rfl (by decide) rfl rfl ?_
  refine g_iconst C (v := 0) dX12_waysNow_2 (by decide) rfl ?_
  refine g_istore_n C ([(2, .int (0)), (1, .int (0)), (0, .ref (m))]) dX12_waysNow_3 rfl (by decide) rfl rfl ?_
  have loop4 : ∀ (N : Nat) (c : Nat) (n0 : Nat), 729 - c < N → (c ≤ 729) → (n0 = wyB (odC σ) c) → qG X 0 0 z h 4 [(2, .int (nI (c))), (1, .int (nI (n0))), (0, .ref (m))] [] := by
    intro N
    induction N with
    | zero => intro c n0 hm; exact absurd hm (Nat.not_lt_zero _)
    | succ N ih4 =>
      intro c n0 hm hc hn
      refine g_iload_n C 0 dX12_waysNow_4 rfl rfl rfl ?_
      refine g_sipush C (v := 729) dX12_waysNow_5 (by decide) rfl ?_
      refine g_icmp_ge C dX12_waysNow_8 (tgt := 35) (by decide) (pc' := 11) rfl ?_ ?_
      · intro c8
        replace c8 := (nI_leI (a := 729) (b := c) (by omega) (by omega)).mp c8
        refine g_iload_n C 1 dX12_waysNow_35 rfl rfl rfl ?_
        exact ret _ _ _ _ dX12_waysNow_36 rfl (⟨by unfold wyM; rw [hn, show c = 729 by omega], rfl⟩)
      · intro c8
        replace c8 := (not_congr (nI_leI (a := 729) (b := c) (by omega) (by omega))).mp c8
        refine g_iload_n C 1 dX12_waysNow_11 rfl rfl rfl ?_
        refine g_aload_n C 2 dX12_waysNow_12 rfl rfl rfl ?_
        refine g_iload_n C 0 dX12_waysNow_13 rfl rfl rfl ?_
        refine g_callVl C (As := [.int (nI (c))]) (q := (RX12, TX12, 36)) (k_X12_oddsOf l D b z hM hR h6 (c := c) (by omega)) hw_12_111 (hM) rfl (by decide) rfl rfl (Nat.le_of_ble_eq_true rfl) ⟨Nat.zero_le _, Nat.zero_le _⟩ dX12_waysNow_14 (pc' := 17) rfl ?_
        rintro r1 h9 ⟨er, e9⟩
        subst h9; subst er
        refine g_lconst C (v := 0) dX12_waysNow_17 (by decide) rfl ?_
        refine g_lcmp C dX12_waysNow_18 rfl ?_
        refine g_if_le C dX12_waysNow_19 (tgt := 26) (by decide) (pc' := 22) rfl ?_ ?_
        · intro c19
          replace c19 := (lg_cmp_le _ _).mp c19
          refine g_iconst C (v := 0) dX12_waysNow_26 (by decide) rfl ?_
          refine g_iadd C dX12_waysNow_27 rfl ?_
          refine g_topi (y := nI (n0 + 0)) (nI_add n0 0) ?_
          refine g_istore_n C ([(1, .int (nI (n0 + 0))), (2, .int (nI (c))), (0, .ref (m))]) dX12_waysNow_28 rfl (by decide) rfl rfl ?_
          refine g_iinc C (v := nI (c + 1)) 1 ([(2, .int (nI (c + 1))), (1, .int (nI (n0 + 0))), (0, .ref (m))]) dX12_waysNow_29 rfl (nI_1 _) (by decide) rfl rfl ?_
          refine g_goto C dX12_waysNow_32 (tgt := 4) (by decide) ?_
          exact ih4 (c + 1) (n0 + 0) (by omega) (by omega) (by simp only [wyB]; rw [hn, if_pos c19])
        · intro c19
          replace c19 := (not_congr (lg_cmp_le _ _)).mp c19
          refine g_iconst C (v := 1) dX12_waysNow_22 (by decide) rfl ?_
          refine g_goto C dX12_waysNow_23 (tgt := 27) (by decide) ?_
          refine g_iadd C dX12_waysNow_27 rfl ?_
          refine g_topi (y := nI (n0 + 1)) (nI_1 n0) ?_
          refine g_istore_n C ([(1, .int (nI (n0 + 1))), (2, .int (nI (c))), (0, .ref (m))]) dX12_waysNow_28 rfl (by decide) rfl rfl ?_
          refine g_iinc C (v := nI (c + 1)) 1 ([(2, .int (nI (c + 1))), (1, .int (nI (n0 + 1))), (0, .ref (m))]) dX12_waysNow_29 rfl (nI_1 _) (by decide) rfl rfl ?_
          refine g_goto C dX12_waysNow_32 (tgt := 4) (by decide) ?_
          exact ih4 (c + 1) (n0 + 1) (by omega) (by omega) (by simp only [wyB]; rw [hn, if_neg c19])
  exact loop4 _ (0) (0) (Nat.lt_succ_self _) (by omega) (rfl)
set_option maxHeartbeats 4000000 in
set_option maxRecDepth 100000 in
theorem k_X12_sureNow (l : Launch) (D : va_G) (b z : Nat) {h : qH} {m : Nat} {σ : sg} {s18 s35 : Int64} {s19 s20 s23 s24 : Int32} {f21 f22 : Nat → Int32} (hM : MdO h m σ s18 s19 s20 s23 s24 s35) (hR : MdR D h m σ f21 f22) (h6 : gN σ 6 < 3) {a : Nat} (ha : a ≤ 6) : qMi l D b yX12_sureNow cX12_sureNow 6 .int 3 74 [.ref (m), .int (nI (a))] h z (fun r0 h' => r0 = srF (fun w => wgC σ a (nI w)) ∧ h' = h) := by
  refine q_i (L := [(0, .ref (m)), (1, .int (nI (a)))]) (own := RX12) (by decide) rfl (Nat.le_of_ble_eq_true rfl) rfl ?_
  intro X C ret
  refine g_iconst C (v := -1) dX12_sureNow_0 (by decide) rfl ?_
  refine g_istore_n C ([(2, .int ((-1))), (0, .ref (m)), (1, .int (nI (a)))]) dX12_sureNow_1 rfl (by decide) rfl rfl ?_
  refine g_iconst C (v := 0) dX12_sureNow_2 (by decide) rfl ?_
  refine g_istore_n C ([(3, .int (0)), (2, .int ((-1))), (0, .ref (m)), (1, .int (nI (a)))]) dX12_sureNow_3 rfl (by decide) rfl rfl ?_
  refine g_iconst C (v := 0) dX12_sureNow_4 (by decide) rfl ?_
  refine g_istore C ([(4, .int (0)), (3, .int (0)), (2, .int ((-1))), (0, .ref (m)), (1, .int (nI (a)))]) dX12_sureNow_5 (by decide) rfl rfl ?_
  refine g_iload C 0 dX12_sureNow_7 rfl rfl ?_
  refine g_iconst C (v := 3) dX12_sureNow_9 (by decide) rfl ?_
  refine g_icmp_ge C dX12_sureNow_10 (tgt := 63) (by decide) (pc' := 13) rfl (fun c10 => absurd c10 (by decide)) (fun _ => ?_)
  refine g_aload_n C 3 dX12_sureNow_13 rfl rfl rfl ?_
  refine g_iload_n C 4 dX12_sureNow_14 rfl rfl rfl ?_
  refine g_iload C 0 dX12_sureNow_15 rfl rfl ?_
  refine g_callVl C (As := [.int (nI (a)), .int (0)]) (q := (RX12, TX12, 36)) (k_X12_weightOf l D b z hM hR h6 (a := a) (by omega) (0)) hw_12_115 (hM) rfl (by decide) rfl rfl (Nat.le_of_ble_eq_true rfl) ⟨Nat.zero_le _, Nat.zero_le _⟩ dX12_sureNow_17 (pc' := 20) rfl ?_
  rintro r1 h9 ⟨er, e9⟩
  subst h9; subst er
  refine g_lconst C (v := 0) dX12_sureNow_20 (by decide) rfl ?_
  refine g_lcmp C dX12_sureNow_21 rfl ?_
  refine g_if_le C dX12_sureNow_22 (tgt := 29) (by decide) (pc' := 25) rfl ?_ ?_
  · intro c22
    replace c22 := (lg_cmp_le _ _).mp c22
    refine g_iconst C (v := 0) dX12_sureNow_29 (by decide) rfl ?_
    refine g_istore C ([(5, .int (0)), (4, .int (0)), (3, .int (0)), (2, .int ((-1))), (0, .ref (m)), (1, .int (nI (a)))]) dX12_sureNow_30 (by decide) rfl rfl ?_
    refine g_iload C 0 dX12_sureNow_32 rfl rfl ?_
    refine g_if_eq C dX12_sureNow_34 (tgt := 42) (by decide) (pc' := 37) rfl (fun _ => ?_) (fun c34 => absurd (by decide) c34)
    refine g_iload_n C 3 dX12_sureNow_42 rfl rfl rfl ?_
    refine g_istore_n C ([(2, .int ((-1))), (5, .int (0)), (4, .int (0)), (3, .int (0)), (0, .ref (m)), (1, .int (nI (a)))]) dX12_sureNow_43 rfl (by decide) rfl rfl ?_
    refine g_iload_n C 3 dX12_sureNow_44 rfl rfl rfl ?_
    refine g_iload C 1 dX12_sureNow_45 rfl rfl ?_
    refine g_if_eq C dX12_sureNow_47 (tgt := 54) (by decide) (pc' := 50) rfl (fun _ => ?_) (fun c47 => absurd (by decide) c47)
    refine g_iconst C (v := 0) dX12_sureNow_54 (by decide) rfl ?_
    refine g_iadd C dX12_sureNow_55 rfl ?_
    refine g_topi (y := 0) (by decide) ?_
    refine g_istore_n C ([(3, .int (0)), (2, .int ((-1))), (5, .int (0)), (4, .int (0)), (0, .ref (m)), (1, .int (nI (a)))]) dX12_sureNow_56 rfl (by decide) rfl rfl ?_
    refine g_iinc C (v := 1) 3 ([(4, .int (1)), (3, .int (0)), (2, .int ((-1))), (5, .int (0)), (0, .ref (m)), (1, .int (nI (a)))]) dX12_sureNow_57 rfl (by decide) (by decide) rfl rfl ?_
    refine g_goto C dX12_sureNow_60 (tgt := 7) (by decide) ?_
    refine g_iload C 0 dX12_sureNow_7 rfl rfl ?_
    refine g_iconst C (v := 3) dX12_sureNow_9 (by decide) rfl ?_
    refine g_icmp_ge C dX12_sureNow_10 (tgt := 63) (by decide) (pc' := 13) rfl (fun c10 => absurd c10 (by decide)) (fun _ => ?_)
    refine g_aload_n C 4 dX12_sureNow_13 rfl rfl rfl ?_
    refine g_iload_n C 5 dX12_sureNow_14 rfl rfl rfl ?_
    refine g_iload C 0 dX12_sureNow_15 rfl rfl ?_
    refine g_callVl C (As := [.int (nI (a)), .int (1)]) (q := (RX12, TX12, 36)) (k_X12_weightOf l D b z hM hR h6 (a := a) (by omega) (1)) hw_12_115 (hM) rfl (by decide) rfl rfl (Nat.le_of_ble_eq_true rfl) ⟨Nat.zero_le _, Nat.zero_le _⟩ dX12_sureNow_17 (pc' := 20) rfl ?_
    rintro r2 h9 ⟨er, e9⟩
    subst h9; subst er
    refine g_lconst C (v := 0) dX12_sureNow_20 (by decide) rfl ?_
    refine g_lcmp C dX12_sureNow_21 rfl ?_
    refine g_if_le C dX12_sureNow_22 (tgt := 29) (by decide) (pc' := 25) rfl ?_ ?_
    · intro c22a
      replace c22a := (lg_cmp_le _ _).mp c22a
      refine g_iconst C (v := 0) dX12_sureNow_29 (by decide) rfl ?_
      refine g_istore C ([(5, .int (0)), (4, .int (1)), (3, .int (0)), (2, .int ((-1))), (0, .ref (m)), (1, .int (nI (a)))]) dX12_sureNow_30 (by decide) rfl rfl ?_
      refine g_iload C 0 dX12_sureNow_32 rfl rfl ?_
      refine g_if_eq C dX12_sureNow_34 (tgt := 42) (by decide) (pc' := 37) rfl (fun _ => ?_) (fun c34 => absurd (by decide) c34)
      refine g_iload_n C 3 dX12_sureNow_42 rfl rfl rfl ?_
      refine g_istore_n C ([(2, .int ((-1))), (5, .int (0)), (4, .int (1)), (3, .int (0)), (0, .ref (m)), (1, .int (nI (a)))]) dX12_sureNow_43 rfl (by decide) rfl rfl ?_
      refine g_iload_n C 3 dX12_sureNow_44 rfl rfl rfl ?_
      refine g_iload C 1 dX12_sureNow_45 rfl rfl ?_
      refine g_if_eq C dX12_sureNow_47 (tgt := 54) (by decide) (pc' := 50) rfl (fun _ => ?_) (fun c47 => absurd (by decide) c47)
      refine g_iconst C (v := 0) dX12_sureNow_54 (by decide) rfl ?_
      refine g_iadd C dX12_sureNow_55 rfl ?_
      refine g_topi (y := 0) (by decide) ?_
      refine g_istore_n C ([(3, .int (0)), (2, .int ((-1))), (5, .int (0)), (4, .int (1)), (0, .ref (m)), (1, .int (nI (a)))]) dX12_sureNow_56 rfl (by decide) rfl rfl ?_
      refine g_iinc C (v := 2) 3 ([(4, .int (2)), (3, .int (0)), (2, .int ((-1))), (5, .int (0)), (0, .ref (m)), (1, .int (nI (a)))]) dX12_sureNow_57 rfl (by decide) (by decide) rfl rfl ?_
      refine g_goto C dX12_sureNow_60 (tgt := 7) (by decide) ?_
      refine g_iload C 0 dX12_sureNow_7 rfl rfl ?_
      refine g_iconst C (v := 3) dX12_sureNow_9 (by decide) rfl ?_
      refine g_icmp_ge C dX12_sureNow_10 (tgt := 63) (by decide) (pc' := 13) rfl (fun c10 => absurd c10 (by decide)) (fun _ => ?_)
      refine g_aload_n C 4 dX12_sureNow_13 rfl rfl rfl ?_
      refine g_iload_n C 5 dX12_sureNow_14 rfl rfl rfl ?_
      refine g_iload C 0 dX12_sureNow_15 rfl rfl ?_
      refine g_callVl C (As := [.int (nI (a)), .int (2)]) (q := (RX12, TX12, 36)) (k_X12_weightOf l D b z hM hR h6 (a := a) (by omega) (2)) hw_12_115 (hM) rfl (by decide) rfl rfl (Nat.le_of_ble_eq_true rfl) ⟨Nat.zero_le _, Nat.zero_le _⟩ dX12_sureNow_17 (pc' := 20) rfl ?_
      rintro r3 h9 ⟨er, e9⟩
      subst h9; subst er
      refine g_lconst C (v := 0) dX12_sureNow_20 (by decide) rfl ?_
      refine g_lcmp C dX12_sureNow_21 rfl ?_
      refine g_if_le C dX12_sureNow_22 (tgt := 29) (by decide) (pc' := 25) rfl ?_ ?_
      · intro c22b
        replace c22b := (lg_cmp_le _ _).mp c22b
        refine g_iconst C (v := 0) dX12_sureNow_29 (by decide) rfl ?_
        refine g_istore C ([(5, .int (0)), (4, .int (2)), (3, .int (0)), (2, .int ((-1))), (0, .ref (m)), (1, .int (nI (a)))]) dX12_sureNow_30 (by decide) rfl rfl ?_
        refine g_iload C 0 dX12_sureNow_32 rfl rfl ?_
        refine g_if_eq C dX12_sureNow_34 (tgt := 42) (by decide) (pc' := 37) rfl (fun _ => ?_) (fun c34 => absurd (by decide) c34)
        refine g_iload_n C 3 dX12_sureNow_42 rfl rfl rfl ?_
        refine g_istore_n C ([(2, .int ((-1))), (5, .int (0)), (4, .int (2)), (3, .int (0)), (0, .ref (m)), (1, .int (nI (a)))]) dX12_sureNow_43 rfl (by decide) rfl rfl ?_
        refine g_iload_n C 3 dX12_sureNow_44 rfl rfl rfl ?_
        refine g_iload C 1 dX12_sureNow_45 rfl rfl ?_
        refine g_if_eq C dX12_sureNow_47 (tgt := 54) (by decide) (pc' := 50) rfl (fun _ => ?_) (fun c47 => absurd (by decide) c47)
        refine g_iconst C (v := 0) dX12_sureNow_54 (by decide) rfl ?_
        refine g_iadd C dX12_sureNow_55 rfl ?_
        refine g_topi (y := 0) (by decide) ?_
        refine g_istore_n C ([(3, .int (0)), (2, .int ((-1))), (5, .int (0)), (4, .int (2)), (0, .ref (m)), (1, .int (nI (a)))]) dX12_sureNow_56 rfl (by decide) rfl rfl ?_
        refine g_iinc C (v := 3) 3 ([(4, .int (3)), (3, .int (0)), (2, .int ((-1))), (5, .int (0)), (0, .ref (m)), (1, .int (nI (a)))]) dX12_sureNow_57 rfl (by decide) (by decide) rfl rfl ?_
        refine g_goto C dX12_sureNow_60 (tgt := 7) (by decide) ?_
        refine g_iload C 0 dX12_sureNow_7 rfl rfl ?_
        refine g_iconst C (v := 3) dX12_sureNow_9 (by decide) rfl ?_
        refine g_icmp_ge C dX12_sureNow_10 (tgt := 63) (by decide) (pc' := 13) rfl (fun _ => ?_) (fun c10 => absurd (by decide) c10)
        refine g_iload_n C 1 dX12_sureNow_63 rfl rfl rfl ?_
        refine g_iconst C (v := 1) dX12_sureNow_64 (by decide) rfl ?_
        refine g_icmp_ne C dX12_sureNow_65 (tgt := 72) (by decide) (pc' := 68) rfl (fun _ => ?_) (fun c65 => absurd c65 (by decide))
        refine g_iconst C (v := -1) dX12_sureNow_72 (by decide) rfl ?_
        exact ret _ _ _ _ dX12_sureNow_73 rfl (⟨by show _ = (if wgC σ a 0 ≤ 0 then (if wgC σ a 1 ≤ 0 then (if wgC σ a 2 ≤ 0 then (-1 : Int32) else 2) else (if wgC σ a 2 ≤ 0 then 1 else -1)) else (if wgC σ a 1 ≤ 0 then (if wgC σ a 2 ≤ 0 then 0 else -1) else -1)); simp only [if_pos c22, if_pos c22a, if_pos c22b], rfl⟩)
      · intro c22b
        replace c22b := (not_congr (lg_cmp_le _ _)).mp c22b
        refine g_iconst C (v := 1) dX12_sureNow_25 (by decide) rfl ?_
        refine g_goto C dX12_sureNow_26 (tgt := 30) (by decide) ?_
        refine g_istore C ([(5, .int (1)), (4, .int (2)), (3, .int (0)), (2, .int ((-1))), (0, .ref (m)), (1, .int (nI (a)))]) dX12_sureNow_30 (by decide) rfl rfl ?_
        refine g_iload C 0 dX12_sureNow_32 rfl rfl ?_
        refine g_if_eq C dX12_sureNow_34 (tgt := 42) (by decide) (pc' := 37) rfl (fun c34 => absurd c34 (by decide)) (fun _ => ?_)
        refine g_iload C 1 dX12_sureNow_37 rfl rfl ?_
        refine g_goto C dX12_sureNow_39 (tgt := 43) (by decide) ?_
        refine g_istore_n C ([(2, .int (2)), (5, .int (1)), (4, .int (2)), (3, .int (0)), (0, .ref (m)), (1, .int (nI (a)))]) dX12_sureNow_43 rfl (by decide) rfl rfl ?_
        refine g_iload_n C 3 dX12_sureNow_44 rfl rfl rfl ?_
        refine g_iload C 1 dX12_sureNow_45 rfl rfl ?_
        refine g_if_eq C dX12_sureNow_47 (tgt := 54) (by decide) (pc' := 50) rfl (fun c47 => absurd c47 (by decide)) (fun _ => ?_)
        refine g_iconst C (v := 1) dX12_sureNow_50 (by decide) rfl ?_
        refine g_goto C dX12_sureNow_51 (tgt := 55) (by decide) ?_
        refine g_iadd C dX12_sureNow_55 rfl ?_
        refine g_topi (y := 1) (by decide) ?_
        refine g_istore_n C ([(3, .int (1)), (2, .int (2)), (5, .int (1)), (4, .int (2)), (0, .ref (m)), (1, .int (nI (a)))]) dX12_sureNow_56 rfl (by decide) rfl rfl ?_
        refine g_iinc C (v := 3) 3 ([(4, .int (3)), (3, .int (1)), (2, .int (2)), (5, .int (1)), (0, .ref (m)), (1, .int (nI (a)))]) dX12_sureNow_57 rfl (by decide) (by decide) rfl rfl ?_
        refine g_goto C dX12_sureNow_60 (tgt := 7) (by decide) ?_
        refine g_iload C 0 dX12_sureNow_7 rfl rfl ?_
        refine g_iconst C (v := 3) dX12_sureNow_9 (by decide) rfl ?_
        refine g_icmp_ge C dX12_sureNow_10 (tgt := 63) (by decide) (pc' := 13) rfl (fun _ => ?_) (fun c10 => absurd (by decide) c10)
        refine g_iload_n C 1 dX12_sureNow_63 rfl rfl rfl ?_
        refine g_iconst C (v := 1) dX12_sureNow_64 (by decide) rfl ?_
        refine g_icmp_ne C dX12_sureNow_65 (tgt := 72) (by decide) (pc' := 68) rfl (fun c65 => absurd (by decide) c65) (fun _ => ?_)
        refine g_iload_n C 2 dX12_sureNow_68 rfl rfl rfl ?_
        refine g_goto C dX12_sureNow_69 (tgt := 73) (by decide) ?_
        exact ret _ _ _ _ dX12_sureNow_73 rfl (⟨by show _ = (if wgC σ a 0 ≤ 0 then (if wgC σ a 1 ≤ 0 then (if wgC σ a 2 ≤ 0 then (-1 : Int32) else 2) else (if wgC σ a 2 ≤ 0 then 1 else -1)) else (if wgC σ a 1 ≤ 0 then (if wgC σ a 2 ≤ 0 then 0 else -1) else -1)); simp only [if_pos c22, if_pos c22a, if_neg c22b], rfl⟩)
    · intro c22a
      replace c22a := (not_congr (lg_cmp_le _ _)).mp c22a
      refine g_iconst C (v := 1) dX12_sureNow_25 (by decide) rfl ?_
      refine g_goto C dX12_sureNow_26 (tgt := 30) (by decide) ?_
      refine g_istore C ([(5, .int (1)), (4, .int (1)), (3, .int (0)), (2, .int ((-1))), (0, .ref (m)), (1, .int (nI (a)))]) dX12_sureNow_30 (by decide) rfl rfl ?_
      refine g_iload C 0 dX12_sureNow_32 rfl rfl ?_
      refine g_if_eq C dX12_sureNow_34 (tgt := 42) (by decide) (pc' := 37) rfl (fun c34 => absurd c34 (by decide)) (fun _ => ?_)
      refine g_iload C 1 dX12_sureNow_37 rfl rfl ?_
      refine g_goto C dX12_sureNow_39 (tgt := 43) (by decide) ?_
      refine g_istore_n C ([(2, .int (1)), (5, .int (1)), (4, .int (1)), (3, .int (0)), (0, .ref (m)), (1, .int (nI (a)))]) dX12_sureNow_43 rfl (by decide) rfl rfl ?_
      refine g_iload_n C 3 dX12_sureNow_44 rfl rfl rfl ?_
      refine g_iload C 1 dX12_sureNow_45 rfl rfl ?_
      refine g_if_eq C dX12_sureNow_47 (tgt := 54) (by decide) (pc' := 50) rfl (fun c47 => absurd c47 (by decide)) (fun _ => ?_)
      refine g_iconst C (v := 1) dX12_sureNow_50 (by decide) rfl ?_
      refine g_goto C dX12_sureNow_51 (tgt := 55) (by decide) ?_
      refine g_iadd C dX12_sureNow_55 rfl ?_
      refine g_topi (y := 1) (by decide) ?_
      refine g_istore_n C ([(3, .int (1)), (2, .int (1)), (5, .int (1)), (4, .int (1)), (0, .ref (m)), (1, .int (nI (a)))]) dX12_sureNow_56 rfl (by decide) rfl rfl ?_
      refine g_iinc C (v := 2) 3 ([(4, .int (2)), (3, .int (1)), (2, .int (1)), (5, .int (1)), (0, .ref (m)), (1, .int (nI (a)))]) dX12_sureNow_57 rfl (by decide) (by decide) rfl rfl ?_
      refine g_goto C dX12_sureNow_60 (tgt := 7) (by decide) ?_
      refine g_iload C 0 dX12_sureNow_7 rfl rfl ?_
      refine g_iconst C (v := 3) dX12_sureNow_9 (by decide) rfl ?_
      refine g_icmp_ge C dX12_sureNow_10 (tgt := 63) (by decide) (pc' := 13) rfl (fun c10 => absurd c10 (by decide)) (fun _ => ?_)
      refine g_aload_n C 4 dX12_sureNow_13 rfl rfl rfl ?_
      refine g_iload_n C 5 dX12_sureNow_14 rfl rfl rfl ?_
      refine g_iload C 0 dX12_sureNow_15 rfl rfl ?_
      refine g_callVl C (As := [.int (nI (a)), .int (2)]) (q := (RX12, TX12, 36)) (k_X12_weightOf l D b z hM hR h6 (a := a) (by omega) (2)) hw_12_115 (hM) rfl (by decide) rfl rfl (Nat.le_of_ble_eq_true rfl) ⟨Nat.zero_le _, Nat.zero_le _⟩ dX12_sureNow_17 (pc' := 20) rfl ?_
      rintro r4 h9 ⟨er, e9⟩
      subst h9; subst er
      refine g_lconst C (v := 0) dX12_sureNow_20 (by decide) rfl ?_
      refine g_lcmp C dX12_sureNow_21 rfl ?_
      refine g_if_le C dX12_sureNow_22 (tgt := 29) (by decide) (pc' := 25) rfl ?_ ?_
      · intro c22b
        replace c22b := (lg_cmp_le _ _).mp c22b
        refine g_iconst C (v := 0) dX12_sureNow_29 (by decide) rfl ?_
        refine g_istore C ([(5, .int (0)), (4, .int (2)), (3, .int (1)), (2, .int (1)), (0, .ref (m)), (1, .int (nI (a)))]) dX12_sureNow_30 (by decide) rfl rfl ?_
        refine g_iload C 0 dX12_sureNow_32 rfl rfl ?_
        refine g_if_eq C dX12_sureNow_34 (tgt := 42) (by decide) (pc' := 37) rfl (fun _ => ?_) (fun c34 => absurd (by decide) c34)
        refine g_iload_n C 3 dX12_sureNow_42 rfl rfl rfl ?_
        refine g_istore_n C ([(2, .int (1)), (5, .int (0)), (4, .int (2)), (3, .int (1)), (0, .ref (m)), (1, .int (nI (a)))]) dX12_sureNow_43 rfl (by decide) rfl rfl ?_
        refine g_iload_n C 3 dX12_sureNow_44 rfl rfl rfl ?_
        refine g_iload C 1 dX12_sureNow_45 rfl rfl ?_
        refine g_if_eq C dX12_sureNow_47 (tgt := 54) (by decide) (pc' := 50) rfl (fun _ => ?_) (fun c47 => absurd (by decide) c47)
        refine g_iconst C (v := 0) dX12_sureNow_54 (by decide) rfl ?_
        refine g_iadd C dX12_sureNow_55 rfl ?_
        refine g_topi (y := 1) (by decide) ?_
        refine g_istore_n C ([(3, .int (1)), (2, .int (1)), (5, .int (0)), (4, .int (2)), (0, .ref (m)), (1, .int (nI (a)))]) dX12_sureNow_56 rfl (by decide) rfl rfl ?_
        refine g_iinc C (v := 3) 3 ([(4, .int (3)), (3, .int (1)), (2, .int (1)), (5, .int (0)), (0, .ref (m)), (1, .int (nI (a)))]) dX12_sureNow_57 rfl (by decide) (by decide) rfl rfl ?_
        refine g_goto C dX12_sureNow_60 (tgt := 7) (by decide) ?_
        refine g_iload C 0 dX12_sureNow_7 rfl rfl ?_
        refine g_iconst C (v := 3) dX12_sureNow_9 (by decide) rfl ?_
        refine g_icmp_ge C dX12_sureNow_10 (tgt := 63) (by decide) (pc' := 13) rfl (fun _ => ?_) (fun c10 => absurd (by decide) c10)
        refine g_iload_n C 1 dX12_sureNow_63 rfl rfl rfl ?_
        refine g_iconst C (v := 1) dX12_sureNow_64 (by decide) rfl ?_
        refine g_icmp_ne C dX12_sureNow_65 (tgt := 72) (by decide) (pc' := 68) rfl (fun c65 => absurd (by decide) c65) (fun _ => ?_)
        refine g_iload_n C 2 dX12_sureNow_68 rfl rfl rfl ?_
        refine g_goto C dX12_sureNow_69 (tgt := 73) (by decide) ?_
        exact ret _ _ _ _ dX12_sureNow_73 rfl (⟨by show _ = (if wgC σ a 0 ≤ 0 then (if wgC σ a 1 ≤ 0 then (if wgC σ a 2 ≤ 0 then (-1 : Int32) else 2) else (if wgC σ a 2 ≤ 0 then 1 else -1)) else (if wgC σ a 1 ≤ 0 then (if wgC σ a 2 ≤ 0 then 0 else -1) else -1)); simp only [if_pos c22, if_neg c22a, if_pos c22b], rfl⟩)
      · intro c22b
        replace c22b := (not_congr (lg_cmp_le _ _)).mp c22b
        refine g_iconst C (v := 1) dX12_sureNow_25 (by decide) rfl ?_
        refine g_goto C dX12_sureNow_26 (tgt := 30) (by decide) ?_
        refine g_istore C ([(5, .int (1)), (4, .int (2)), (3, .int (1)), (2, .int (1)), (0, .ref (m)), (1, .int (nI (a)))]) dX12_sureNow_30 (by decide) rfl rfl ?_
        refine g_iload C 0 dX12_sureNow_32 rfl rfl ?_
        refine g_if_eq C dX12_sureNow_34 (tgt := 42) (by decide) (pc' := 37) rfl (fun c34 => absurd c34 (by decide)) (fun _ => ?_)
        refine g_iload C 1 dX12_sureNow_37 rfl rfl ?_
        refine g_goto C dX12_sureNow_39 (tgt := 43) (by decide) ?_
        refine g_istore_n C ([(2, .int (2)), (5, .int (1)), (4, .int (2)), (3, .int (1)), (0, .ref (m)), (1, .int (nI (a)))]) dX12_sureNow_43 rfl (by decide) rfl rfl ?_
        refine g_iload_n C 3 dX12_sureNow_44 rfl rfl rfl ?_
        refine g_iload C 1 dX12_sureNow_45 rfl rfl ?_
        refine g_if_eq C dX12_sureNow_47 (tgt := 54) (by decide) (pc' := 50) rfl (fun c47 => absurd c47 (by decide)) (fun _ => ?_)
        refine g_iconst C (v := 1) dX12_sureNow_50 (by decide) rfl ?_
        refine g_goto C dX12_sureNow_51 (tgt := 55) (by decide) ?_
        refine g_iadd C dX12_sureNow_55 rfl ?_
        refine g_topi (y := 2) (by decide) ?_
        refine g_istore_n C ([(3, .int (2)), (2, .int (2)), (5, .int (1)), (4, .int (2)), (0, .ref (m)), (1, .int (nI (a)))]) dX12_sureNow_56 rfl (by decide) rfl rfl ?_
        refine g_iinc C (v := 3) 3 ([(4, .int (3)), (3, .int (2)), (2, .int (2)), (5, .int (1)), (0, .ref (m)), (1, .int (nI (a)))]) dX12_sureNow_57 rfl (by decide) (by decide) rfl rfl ?_
        refine g_goto C dX12_sureNow_60 (tgt := 7) (by decide) ?_
        refine g_iload C 0 dX12_sureNow_7 rfl rfl ?_
        refine g_iconst C (v := 3) dX12_sureNow_9 (by decide) rfl ?_
        refine g_icmp_ge C dX12_sureNow_10 (tgt := 63) (by decide) (pc' := 13) rfl (fun _ => ?_) (fun c10 => absurd (by decide) c10)
        refine g_iload_n C 1 dX12_sureNow_63 rfl rfl rfl ?_
        refine g_iconst C (v := 1) dX12_sureNow_64 (by decide) rfl ?_
        refine g_icmp_ne C dX12_sureNow_65 (tgt := 72) (by decide) (pc' := 68) rfl (fun _ => ?_) (fun c65 => absurd c65 (by decide))
        refine g_iconst C (v := -1) dX12_sureNow_72 (by decide) rfl ?_
        exact ret _ _ _ _ dX12_sureNow_73 rfl (⟨by show _ = (if wgC σ a 0 ≤ 0 then (if wgC σ a 1 ≤ 0 then (if wgC σ a 2 ≤ 0 then (-1 : Int32) else 2) else (if wgC σ a 2 ≤ 0 then 1 else -1)) else (if wgC σ a 1 ≤ 0 then (if wgC σ a 2 ≤ 0 then 0 else -1) else -1)); simp only [if_pos c22, if_neg c22a, if_neg c22b], rfl⟩)
  · intro c22
    replace c22 := (not_congr (lg_cmp_le _ _)).mp c22
    refine g_iconst C (v := 1) dX12_sureNow_25 (by decide) rfl ?_
    refine g_goto C dX12_sureNow_26 (tgt := 30) (by decide) ?_
    refine g_istore C ([(5, .int (1)), (4, .int (0)), (3, .int (0)), (2, .int ((-1))), (0, .ref (m)), (1, .int (nI (a)))]) dX12_sureNow_30 (by decide) rfl rfl ?_
    refine g_iload C 0 dX12_sureNow_32 rfl rfl ?_
    refine g_if_eq C dX12_sureNow_34 (tgt := 42) (by decide) (pc' := 37) rfl (fun c34 => absurd c34 (by decide)) (fun _ => ?_)
    refine g_iload C 1 dX12_sureNow_37 rfl rfl ?_
    refine g_goto C dX12_sureNow_39 (tgt := 43) (by decide) ?_
    refine g_istore_n C ([(2, .int (0)), (5, .int (1)), (4, .int (0)), (3, .int (0)), (0, .ref (m)), (1, .int (nI (a)))]) dX12_sureNow_43 rfl (by decide) rfl rfl ?_
    refine g_iload_n C 3 dX12_sureNow_44 rfl rfl rfl ?_
    refine g_iload C 1 dX12_sureNow_45 rfl rfl ?_
    refine g_if_eq C dX12_sureNow_47 (tgt := 54) (by decide) (pc' := 50) rfl (fun c47 => absurd c47 (by decide)) (fun _ => ?_)
    refine g_iconst C (v := 1) dX12_sureNow_50 (by decide) rfl ?_
    refine g_goto C dX12_sureNow_51 (tgt := 55) (by decide) ?_
    refine g_iadd C dX12_sureNow_55 rfl ?_
    refine g_topi (y := 1) (by decide) ?_
    refine g_istore_n C ([(3, .int (1)), (2, .int (0)), (5, .int (1)), (4, .int (0)), (0, .ref (m)), (1, .int (nI (a)))]) dX12_sureNow_56 rfl (by decide) rfl rfl ?_
    refine g_iinc C (v := 1) 3 ([(4, .int (1)), (3, .int (1)), (2, .int (0)), (5, .int (1)), (0, .ref (m)), (1, .int (nI (a)))]) dX12_sureNow_57 rfl (by decide) (by decide) rfl rfl ?_
    refine g_goto C dX12_sureNow_60 (tgt := 7) (by decide) ?_
    refine g_iload C 0 dX12_sureNow_7 rfl rfl ?_
    refine g_iconst C (v := 3) dX12_sureNow_9 (by decide) rfl ?_
    refine g_icmp_ge C dX12_sureNow_10 (tgt := 63) (by decide) (pc' := 13) rfl (fun c10 => absurd c10 (by decide)) (fun _ => ?_)
    refine g_aload_n C 4 dX12_sureNow_13 rfl rfl rfl ?_
    refine g_iload_n C 5 dX12_sureNow_14 rfl rfl rfl ?_
    refine g_iload C 0 dX12_sureNow_15 rfl rfl ?_
    refine g_callVl C (As := [.int (nI (a)), .int (1)]) (q := (RX12, TX12, 36)) (k_X12_weightOf l D b z hM hR h6 (a := a) (by omega) (1)) hw_12_115 (hM) rfl (by decide) rfl rfl (Nat.le_of_ble_eq_true rfl) ⟨Nat.zero_le _, Nat.zero_le _⟩ dX12_sureNow_17 (pc' := 20) rfl ?_
    rintro r5 h9 ⟨er, e9⟩
    subst h9; subst er
    refine g_lconst C (v := 0) dX12_sureNow_20 (by decide) rfl ?_
    refine g_lcmp C dX12_sureNow_21 rfl ?_
    refine g_if_le C dX12_sureNow_22 (tgt := 29) (by decide) (pc' := 25) rfl ?_ ?_
    · intro c22a
      replace c22a := (lg_cmp_le _ _).mp c22a
      refine g_iconst C (v := 0) dX12_sureNow_29 (by decide) rfl ?_
      refine g_istore C ([(5, .int (0)), (4, .int (1)), (3, .int (1)), (2, .int (0)), (0, .ref (m)), (1, .int (nI (a)))]) dX12_sureNow_30 (by decide) rfl rfl ?_
      refine g_iload C 0 dX12_sureNow_32 rfl rfl ?_
      refine g_if_eq C dX12_sureNow_34 (tgt := 42) (by decide) (pc' := 37) rfl (fun _ => ?_) (fun c34 => absurd (by decide) c34)
      refine g_iload_n C 3 dX12_sureNow_42 rfl rfl rfl ?_
      refine g_istore_n C ([(2, .int (0)), (5, .int (0)), (4, .int (1)), (3, .int (1)), (0, .ref (m)), (1, .int (nI (a)))]) dX12_sureNow_43 rfl (by decide) rfl rfl ?_
      refine g_iload_n C 3 dX12_sureNow_44 rfl rfl rfl ?_
      refine g_iload C 1 dX12_sureNow_45 rfl rfl ?_
      refine g_if_eq C dX12_sureNow_47 (tgt := 54) (by decide) (pc' := 50) rfl (fun _ => ?_) (fun c47 => absurd (by decide) c47)
      refine g_iconst C (v := 0) dX12_sureNow_54 (by decide) rfl ?_
      refine g_iadd C dX12_sureNow_55 rfl ?_
      refine g_topi (y := 1) (by decide) ?_
      refine g_istore_n C ([(3, .int (1)), (2, .int (0)), (5, .int (0)), (4, .int (1)), (0, .ref (m)), (1, .int (nI (a)))]) dX12_sureNow_56 rfl (by decide) rfl rfl ?_
      refine g_iinc C (v := 2) 3 ([(4, .int (2)), (3, .int (1)), (2, .int (0)), (5, .int (0)), (0, .ref (m)), (1, .int (nI (a)))]) dX12_sureNow_57 rfl (by decide) (by decide) rfl rfl ?_
      refine g_goto C dX12_sureNow_60 (tgt := 7) (by decide) ?_
      refine g_iload C 0 dX12_sureNow_7 rfl rfl ?_
      refine g_iconst C (v := 3) dX12_sureNow_9 (by decide) rfl ?_
      refine g_icmp_ge C dX12_sureNow_10 (tgt := 63) (by decide) (pc' := 13) rfl (fun c10 => absurd c10 (by decide)) (fun _ => ?_)
      refine g_aload_n C 4 dX12_sureNow_13 rfl rfl rfl ?_
      refine g_iload_n C 5 dX12_sureNow_14 rfl rfl rfl ?_
      refine g_iload C 0 dX12_sureNow_15 rfl rfl ?_
      refine g_callVl C (As := [.int (nI (a)), .int (2)]) (q := (RX12, TX12, 36)) (k_X12_weightOf l D b z hM hR h6 (a := a) (by omega) (2)) hw_12_115 (hM) rfl (by decide) rfl rfl (Nat.le_of_ble_eq_true rfl) ⟨Nat.zero_le _, Nat.zero_le _⟩ dX12_sureNow_17 (pc' := 20) rfl ?_
      rintro r6 h9 ⟨er, e9⟩
      subst h9; subst er
      refine g_lconst C (v := 0) dX12_sureNow_20 (by decide) rfl ?_
      refine g_lcmp C dX12_sureNow_21 rfl ?_
      refine g_if_le C dX12_sureNow_22 (tgt := 29) (by decide) (pc' := 25) rfl ?_ ?_
      · intro c22b
        replace c22b := (lg_cmp_le _ _).mp c22b
        refine g_iconst C (v := 0) dX12_sureNow_29 (by decide) rfl ?_
        refine g_istore C ([(5, .int (0)), (4, .int (2)), (3, .int (1)), (2, .int (0)), (0, .ref (m)), (1, .int (nI (a)))]) dX12_sureNow_30 (by decide) rfl rfl ?_
        refine g_iload C 0 dX12_sureNow_32 rfl rfl ?_
        refine g_if_eq C dX12_sureNow_34 (tgt := 42) (by decide) (pc' := 37) rfl (fun _ => ?_) (fun c34 => absurd (by decide) c34)
        refine g_iload_n C 3 dX12_sureNow_42 rfl rfl rfl ?_
        refine g_istore_n C ([(2, .int (0)), (5, .int (0)), (4, .int (2)), (3, .int (1)), (0, .ref (m)), (1, .int (nI (a)))]) dX12_sureNow_43 rfl (by decide) rfl rfl ?_
        refine g_iload_n C 3 dX12_sureNow_44 rfl rfl rfl ?_
        refine g_iload C 1 dX12_sureNow_45 rfl rfl ?_
        refine g_if_eq C dX12_sureNow_47 (tgt := 54) (by decide) (pc' := 50) rfl (fun _ => ?_) (fun c47 => absurd (by decide) c47)
        refine g_iconst C (v := 0) dX12_sureNow_54 (by decide) rfl ?_
        refine g_iadd C dX12_sureNow_55 rfl ?_
        refine g_topi (y := 1) (by decide) ?_
        refine g_istore_n C ([(3, .int (1)), (2, .int (0)), (5, .int (0)), (4, .int (2)), (0, .ref (m)), (1, .int (nI (a)))]) dX12_sureNow_56 rfl (by decide) rfl rfl ?_
        refine g_iinc C (v := 3) 3 ([(4, .int (3)), (3, .int (1)), (2, .int (0)), (5, .int (0)), (0, .ref (m)), (1, .int (nI (a)))]) dX12_sureNow_57 rfl (by decide) (by decide) rfl rfl ?_
        refine g_goto C dX12_sureNow_60 (tgt := 7) (by decide) ?_
        refine g_iload C 0 dX12_sureNow_7 rfl rfl ?_
        refine g_iconst C (v := 3) dX12_sureNow_9 (by decide) rfl ?_
        refine g_icmp_ge C dX12_sureNow_10 (tgt := 63) (by decide) (pc' := 13) rfl (fun _ => ?_) (fun c10 => absurd (by decide) c10)
        refine g_iload_n C 1 dX12_sureNow_63 rfl rfl rfl ?_
        refine g_iconst C (v := 1) dX12_sureNow_64 (by decide) rfl ?_
        refine g_icmp_ne C dX12_sureNow_65 (tgt := 72) (by decide) (pc' := 68) rfl (fun c65 => absurd (by decide) c65) (fun _ => ?_)
        refine g_iload_n C 2 dX12_sureNow_68 rfl rfl rfl ?_
        refine g_goto C dX12_sureNow_69 (tgt := 73) (by decide) ?_
        exact ret _ _ _ _ dX12_sureNow_73 rfl (⟨by show _ = (if wgC σ a 0 ≤ 0 then (if wgC σ a 1 ≤ 0 then (if wgC σ a 2 ≤ 0 then (-1 : Int32) else 2) else (if wgC σ a 2 ≤ 0 then 1 else -1)) else (if wgC σ a 1 ≤ 0 then (if wgC σ a 2 ≤ 0 then 0 else -1) else -1)); simp only [if_neg c22, if_pos c22a, if_pos c22b], rfl⟩)
      · intro c22b
        replace c22b := (not_congr (lg_cmp_le _ _)).mp c22b
        refine g_iconst C (v := 1) dX12_sureNow_25 (by decide) rfl ?_
        refine g_goto C dX12_sureNow_26 (tgt := 30) (by decide) ?_
        refine g_istore C ([(5, .int (1)), (4, .int (2)), (3, .int (1)), (2, .int (0)), (0, .ref (m)), (1, .int (nI (a)))]) dX12_sureNow_30 (by decide) rfl rfl ?_
        refine g_iload C 0 dX12_sureNow_32 rfl rfl ?_
        refine g_if_eq C dX12_sureNow_34 (tgt := 42) (by decide) (pc' := 37) rfl (fun c34 => absurd c34 (by decide)) (fun _ => ?_)
        refine g_iload C 1 dX12_sureNow_37 rfl rfl ?_
        refine g_goto C dX12_sureNow_39 (tgt := 43) (by decide) ?_
        refine g_istore_n C ([(2, .int (2)), (5, .int (1)), (4, .int (2)), (3, .int (1)), (0, .ref (m)), (1, .int (nI (a)))]) dX12_sureNow_43 rfl (by decide) rfl rfl ?_
        refine g_iload_n C 3 dX12_sureNow_44 rfl rfl rfl ?_
        refine g_iload C 1 dX12_sureNow_45 rfl rfl ?_
        refine g_if_eq C dX12_sureNow_47 (tgt := 54) (by decide) (pc' := 50) rfl (fun c47 => absurd c47 (by decide)) (fun _ => ?_)
        refine g_iconst C (v := 1) dX12_sureNow_50 (by decide) rfl ?_
        refine g_goto C dX12_sureNow_51 (tgt := 55) (by decide) ?_
        refine g_iadd C dX12_sureNow_55 rfl ?_
        refine g_topi (y := 2) (by decide) ?_
        refine g_istore_n C ([(3, .int (2)), (2, .int (2)), (5, .int (1)), (4, .int (2)), (0, .ref (m)), (1, .int (nI (a)))]) dX12_sureNow_56 rfl (by decide) rfl rfl ?_
        refine g_iinc C (v := 3) 3 ([(4, .int (3)), (3, .int (2)), (2, .int (2)), (5, .int (1)), (0, .ref (m)), (1, .int (nI (a)))]) dX12_sureNow_57 rfl (by decide) (by decide) rfl rfl ?_
        refine g_goto C dX12_sureNow_60 (tgt := 7) (by decide) ?_
        refine g_iload C 0 dX12_sureNow_7 rfl rfl ?_
        refine g_iconst C (v := 3) dX12_sureNow_9 (by decide) rfl ?_
        refine g_icmp_ge C dX12_sureNow_10 (tgt := 63) (by decide) (pc' := 13) rfl (fun _ => ?_) (fun c10 => absurd (by decide) c10)
        refine g_iload_n C 1 dX12_sureNow_63 rfl rfl rfl ?_
        refine g_iconst C (v := 1) dX12_sureNow_64 (by decide) rfl ?_
        refine g_icmp_ne C dX12_sureNow_65 (tgt := 72) (by decide) (pc' := 68) rfl (fun _ => ?_) (fun c65 => absurd c65 (by decide))
        refine g_iconst C (v := -1) dX12_sureNow_72 (by decide) rfl ?_
        exact ret _ _ _ _ dX12_sureNow_73 rfl (⟨by show _ = (if wgC σ a 0 ≤ 0 then (if wgC σ a 1 ≤ 0 then (if wgC σ a 2 ≤ 0 then (-1 : Int32) else 2) else (if wgC σ a 2 ≤ 0 then 1 else -1)) else (if wgC σ a 1 ≤ 0 then (if wgC σ a 2 ≤ 0 then 0 else -1) else -1)); simp only [if_neg c22, if_pos c22a, if_neg c22b], rfl⟩)
    · intro c22a
      replace c22a := (not_congr (lg_cmp_le _ _)).mp c22a
      refine g_iconst C (v := 1) dX12_sureNow_25 (by decide) rfl ?_
      refine g_goto C dX12_sureNow_26 (tgt := 30) (by decide) ?_
      refine g_istore C ([(5, .int (1)), (4, .int (1)), (3, .int (1)), (2, .int (0)), (0, .ref (m)), (1, .int (nI (a)))]) dX12_sureNow_30 (by decide) rfl rfl ?_
      refine g_iload C 0 dX12_sureNow_32 rfl rfl ?_
      refine g_if_eq C dX12_sureNow_34 (tgt := 42) (by decide) (pc' := 37) rfl (fun c34 => absurd c34 (by decide)) (fun _ => ?_)
      refine g_iload C 1 dX12_sureNow_37 rfl rfl ?_
      refine g_goto C dX12_sureNow_39 (tgt := 43) (by decide) ?_
      refine g_istore_n C ([(2, .int (1)), (5, .int (1)), (4, .int (1)), (3, .int (1)), (0, .ref (m)), (1, .int (nI (a)))]) dX12_sureNow_43 rfl (by decide) rfl rfl ?_
      refine g_iload_n C 3 dX12_sureNow_44 rfl rfl rfl ?_
      refine g_iload C 1 dX12_sureNow_45 rfl rfl ?_
      refine g_if_eq C dX12_sureNow_47 (tgt := 54) (by decide) (pc' := 50) rfl (fun c47 => absurd c47 (by decide)) (fun _ => ?_)
      refine g_iconst C (v := 1) dX12_sureNow_50 (by decide) rfl ?_
      refine g_goto C dX12_sureNow_51 (tgt := 55) (by decide) ?_
      refine g_iadd C dX12_sureNow_55 rfl ?_
      refine g_topi (y := 2) (by decide) ?_
      refine g_istore_n C ([(3, .int (2)), (2, .int (1)), (5, .int (1)), (4, .int (1)), (0, .ref (m)), (1, .int (nI (a)))]) dX12_sureNow_56 rfl (by decide) rfl rfl ?_
      refine g_iinc C (v := 2) 3 ([(4, .int (2)), (3, .int (2)), (2, .int (1)), (5, .int (1)), (0, .ref (m)), (1, .int (nI (a)))]) dX12_sureNow_57 rfl (by decide) (by decide) rfl rfl ?_
      refine g_goto C dX12_sureNow_60 (tgt := 7) (by decide) ?_
      refine g_iload C 0 dX12_sureNow_7 rfl rfl ?_
      refine g_iconst C (v := 3) dX12_sureNow_9 (by decide) rfl ?_
      refine g_icmp_ge C dX12_sureNow_10 (tgt := 63) (by decide) (pc' := 13) rfl (fun c10 => absurd c10 (by decide)) (fun _ => ?_)
      refine g_aload_n C 4 dX12_sureNow_13 rfl rfl rfl ?_
      refine g_iload_n C 5 dX12_sureNow_14 rfl rfl rfl ?_
      refine g_iload C 0 dX12_sureNow_15 rfl rfl ?_
      refine g_callVl C (As := [.int (nI (a)), .int (2)]) (q := (RX12, TX12, 36)) (k_X12_weightOf l D b z hM hR h6 (a := a) (by omega) (2)) hw_12_115 (hM) rfl (by decide) rfl rfl (Nat.le_of_ble_eq_true rfl) ⟨Nat.zero_le _, Nat.zero_le _⟩ dX12_sureNow_17 (pc' := 20) rfl ?_
      rintro r7 h9 ⟨er, e9⟩
      subst h9; subst er
      refine g_lconst C (v := 0) dX12_sureNow_20 (by decide) rfl ?_
      refine g_lcmp C dX12_sureNow_21 rfl ?_
      refine g_if_le C dX12_sureNow_22 (tgt := 29) (by decide) (pc' := 25) rfl ?_ ?_
      · intro c22b
        replace c22b := (lg_cmp_le _ _).mp c22b
        refine g_iconst C (v := 0) dX12_sureNow_29 (by decide) rfl ?_
        refine g_istore C ([(5, .int (0)), (4, .int (2)), (3, .int (2)), (2, .int (1)), (0, .ref (m)), (1, .int (nI (a)))]) dX12_sureNow_30 (by decide) rfl rfl ?_
        refine g_iload C 0 dX12_sureNow_32 rfl rfl ?_
        refine g_if_eq C dX12_sureNow_34 (tgt := 42) (by decide) (pc' := 37) rfl (fun _ => ?_) (fun c34 => absurd (by decide) c34)
        refine g_iload_n C 3 dX12_sureNow_42 rfl rfl rfl ?_
        refine g_istore_n C ([(2, .int (1)), (5, .int (0)), (4, .int (2)), (3, .int (2)), (0, .ref (m)), (1, .int (nI (a)))]) dX12_sureNow_43 rfl (by decide) rfl rfl ?_
        refine g_iload_n C 3 dX12_sureNow_44 rfl rfl rfl ?_
        refine g_iload C 1 dX12_sureNow_45 rfl rfl ?_
        refine g_if_eq C dX12_sureNow_47 (tgt := 54) (by decide) (pc' := 50) rfl (fun _ => ?_) (fun c47 => absurd (by decide) c47)
        refine g_iconst C (v := 0) dX12_sureNow_54 (by decide) rfl ?_
        refine g_iadd C dX12_sureNow_55 rfl ?_
        refine g_topi (y := 2) (by decide) ?_
        refine g_istore_n C ([(3, .int (2)), (2, .int (1)), (5, .int (0)), (4, .int (2)), (0, .ref (m)), (1, .int (nI (a)))]) dX12_sureNow_56 rfl (by decide) rfl rfl ?_
        refine g_iinc C (v := 3) 3 ([(4, .int (3)), (3, .int (2)), (2, .int (1)), (5, .int (0)), (0, .ref (m)), (1, .int (nI (a)))]) dX12_sureNow_57 rfl (by decide) (by decide) rfl rfl ?_
        refine g_goto C dX12_sureNow_60 (tgt := 7) (by decide) ?_
        refine g_iload C 0 dX12_sureNow_7 rfl rfl ?_
        refine g_iconst C (v := 3) dX12_sureNow_9 (by decide) rfl ?_
        refine g_icmp_ge C dX12_sureNow_10 (tgt := 63) (by decide) (pc' := 13) rfl (fun _ => ?_) (fun c10 => absurd (by decide) c10)
        refine g_iload_n C 1 dX12_sureNow_63 rfl rfl rfl ?_
        refine g_iconst C (v := 1) dX12_sureNow_64 (by decide) rfl ?_
        refine g_icmp_ne C dX12_sureNow_65 (tgt := 72) (by decide) (pc' := 68) rfl (fun _ => ?_) (fun c65 => absurd c65 (by decide))
        refine g_iconst C (v := -1) dX12_sureNow_72 (by decide) rfl ?_
        exact ret _ _ _ _ dX12_sureNow_73 rfl (⟨by show _ = (if wgC σ a 0 ≤ 0 then (if wgC σ a 1 ≤ 0 then (if wgC σ a 2 ≤ 0 then (-1 : Int32) else 2) else (if wgC σ a 2 ≤ 0 then 1 else -1)) else (if wgC σ a 1 ≤ 0 then (if wgC σ a 2 ≤ 0 then 0 else -1) else -1)); simp only [if_neg c22, if_neg c22a, if_pos c22b], rfl⟩)
      · intro c22b
        replace c22b := (not_congr (lg_cmp_le _ _)).mp c22b
        refine g_iconst C (v := 1) dX12_sureNow_25 (by decide) rfl ?_
        refine g_goto C dX12_sureNow_26 (tgt := 30) (by decide) ?_
        refine g_istore C ([(5, .int (1)), (4, .int (2)), (3, .int (2)), (2, .int (1)), (0, .ref (m)), (1, .int (nI (a)))]) dX12_sureNow_30 (by decide) rfl rfl ?_
        refine g_iload C 0 dX12_sureNow_32 rfl rfl ?_
        refine g_if_eq C dX12_sureNow_34 (tgt := 42) (by decide) (pc' := 37) rfl (fun c34 => absurd c34 (by decide)) (fun _ => ?_)
        refine g_iload C 1 dX12_sureNow_37 rfl rfl ?_
        refine g_goto C dX12_sureNow_39 (tgt := 43) (by decide) ?_
        refine g_istore_n C ([(2, .int (2)), (5, .int (1)), (4, .int (2)), (3, .int (2)), (0, .ref (m)), (1, .int (nI (a)))]) dX12_sureNow_43 rfl (by decide) rfl rfl ?_
        refine g_iload_n C 3 dX12_sureNow_44 rfl rfl rfl ?_
        refine g_iload C 1 dX12_sureNow_45 rfl rfl ?_
        refine g_if_eq C dX12_sureNow_47 (tgt := 54) (by decide) (pc' := 50) rfl (fun c47 => absurd c47 (by decide)) (fun _ => ?_)
        refine g_iconst C (v := 1) dX12_sureNow_50 (by decide) rfl ?_
        refine g_goto C dX12_sureNow_51 (tgt := 55) (by decide) ?_
        refine g_iadd C dX12_sureNow_55 rfl ?_
        refine g_topi (y := 3) (by decide) ?_
        refine g_istore_n C ([(3, .int (3)), (2, .int (2)), (5, .int (1)), (4, .int (2)), (0, .ref (m)), (1, .int (nI (a)))]) dX12_sureNow_56 rfl (by decide) rfl rfl ?_
        refine g_iinc C (v := 3) 3 ([(4, .int (3)), (3, .int (3)), (2, .int (2)), (5, .int (1)), (0, .ref (m)), (1, .int (nI (a)))]) dX12_sureNow_57 rfl (by decide) (by decide) rfl rfl ?_
        refine g_goto C dX12_sureNow_60 (tgt := 7) (by decide) ?_
        refine g_iload C 0 dX12_sureNow_7 rfl rfl ?_
        refine g_iconst C (v := 3) dX12_sureNow_9 (by decide) rfl ?_
        refine g_icmp_ge C dX12_sureNow_10 (tgt := 63) (by decide) (pc' := 13) rfl (fun _ => ?_) (fun c10 => absurd (by decide) c10)
        refine g_iload_n C 1 dX12_sureNow_63 rfl rfl rfl ?_
        refine g_iconst C (v := 1) dX12_sureNow_64 (by decide) rfl ?_
        refine g_icmp_ne C dX12_sureNow_65 (tgt := 72) (by decide) (pc' := 68) rfl (fun _ => ?_) (fun c65 => absurd c65 (by decide))
        refine g_iconst C (v := -1) dX12_sureNow_72 (by decide) rfl ?_
        exact ret _ _ _ _ dX12_sureNow_73 rfl (⟨by show _ = (if wgC σ a 0 ≤ 0 then (if wgC σ a 1 ≤ 0 then (if wgC σ a 2 ≤ 0 then (-1 : Int32) else 2) else (if wgC σ a 2 ≤ 0 then 1 else -1)) else (if wgC σ a 1 ≤ 0 then (if wgC σ a 2 ≤ 0 then 0 else -1) else -1)); simp only [if_neg c22, if_neg c22a, if_neg c22b], rfl⟩)
def F_less (x y : Int64) : Int64 := (if y ≤ (x) then (y) else (x))
set_option maxHeartbeats 4000000 in
set_option maxRecDepth 100000 in
theorem k_X12_less (l : Launch) (D : va_G) (b z : Nat) (h : qH) (x y : Int64) : qMl l D b yX12_less cX12_less 4 0 0 [.long (x), .long (y)] h z (fun r h' => r = F_less x y ∧ h' = h) := by
  refine q_l (L := [(0, .long (x)), (2, .long (y))]) (own := RX12) (by decide) rfl (Nat.le_of_ble_eq_true rfl) rfl ?_
  intro X C ret
  refine g_lload_n C 0 dX12_less_0 rfl rfl rfl ?_
  refine g_lload_n C 1 dX12_less_1 rfl rfl rfl ?_
  refine g_lcmp C dX12_less_2 rfl ?_
  refine g_if_ge C dX12_less_3 (tgt := 10) (by decide) (pc' := 6) rfl ?_ ?_
  · intro c3
    replace c3 := (lg_cmp_ge _ _).mp c3
    refine g_lload_n C 1 dX12_less_10 rfl rfl rfl ?_
    exact ret _ _ _ _ dX12_less_11 (⟨by simp only [F_less, if_pos c3], rfl⟩)
  · intro c3
    replace c3 := (not_congr (lg_cmp_ge _ _)).mp c3
    refine g_lload_n C 0 dX12_less_6 rfl rfl rfl ?_
    refine g_goto C dX12_less_7 (tgt := 11) (by decide) ?_
    exact ret _ _ _ _ dX12_less_11 (⟨by simp only [F_less, if_neg c3], rfl⟩)

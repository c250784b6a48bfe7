/-! the reference model: one day by a seed, the days -/
def gsY (σ : sg) (dN : Nat → Nat) (sd : Nat) : Nat := if drN (lcgN sd) < gN σ 4 then (dN (gN σ 3) + 1) % 3 else dN (gN σ 3)
def gsS (σ : sg) (dN : Nat → Nat) (sd : Nat) : sg := uB σ 7 (upd (gB σ 7) (gN σ 3) (nI (gsY σ dN sd)))
theorem gsY_t {σ : sg} {dN : Nat → Nat} {sd : Nat} (h : drN (lcgN sd) < gN σ 4) : gsY σ dN sd = (dN (gN σ 3) + 1) % 3 := if_pos h
theorem gsY_f {σ : sg} {dN : Nat → Nat} {sd : Nat} (h : ¬ drN (lcgN sd) < gN σ 4) : gsY σ dN sd = dN (gN σ 3) := if_neg h
set_option maxHeartbeats 4000000 in
set_option maxRecDepth 100000 in
theorem k_X12_goSeeded (l : Launch) (D : va_G) (b z : Nat) {h : qH} {m : Nat} {σ : sg} {s35 : Int64} {s19 s20 s24 : Int32} {f21 f22 : Nat → Int32} {dN : Nat → Nat} {da sd : Nat} (hsd : sd < 2147483648) (h6 : gN σ 6 < 3) (h3 : gN σ 3 ≤ 4) (hIt : ∀ i, i < 9 → gA σ 2 i ≤ 10) (hda : da ≤ gN σ 3) (hdr : ∀ j, 1 ≤ j → j ≤ da → f22 j = nI (dN j) ∧ dN j < 3) (hd0 : dN 0 = gN σ 6) (hn31 : 1 ≤ gN σ 3) (hn4 : gN σ 4 < 10) (hn8 : gN σ 8 ≤ 4) (hM : MdO h m (σ) (lN (sd)) (s19) (s20) (nI (da)) (s24) (s35)) (hR : MdR D h m (σ) (f21) (f22)) : qMi l D b yX12_goSeeded cX12_goSeeded 5 .int 5 121 [.ref (m)] h z (fun r0 h' => ∃ dN' sd' f22', exS (gA σ 2) (dN, da, sd) (gN σ 3) = (dN', gN σ 3, sd') ∧ r0 = saM (gsS σ dN' sd') (dN' 1) (gN σ 8) ∧ MdO h' m (dyM0 (gsS σ dN' sd') (dN' 1)) (lN (lcgN sd')) s19 s20 (nI (gN σ 3 - 1)) (s24 + (if drN (lcgN sd') < gN σ 4 then 1 else 0)) s35 ∧ MdR D h' m (dyM0 (gsS σ dN' sd') (dN' 1)) f21 f22' ∧ (∀ j, 1 ≤ j → j ≤ gN σ 3 - 1 → f22' j = nI (dN' (j + 1)) ∧ dN' (j + 1) < 3) ∧ dN' 1 < 3 ∧ ∀ q, (q < m ∨ m + 16 ≤ q) → h' q = h q) := by
  refine q_i (L := [(0, .ref (m))]) (own := RX12) (by decide) rfl (Nat.le_of_ble_eq_true rfl) rfl ?_
  intro X C ret
  have hO : ∀ q, (q < m ∨ m + 16 ≤ q) → h q = h q := fun _ _ => rfl
  refine g_aload_n C 0 dX12_goSeeded_0 rfl rfl rfl ?_
  refine g_callVv C (As := []) (q := (RX12, TX12, 36)) (k_X12_drawDays l D b z hsd h6 h3 hIt hda hdr hd0 hM hR) hw_12_193 (hM) rfl (by decide) rfl rfl (Nat.le_of_ble_eq_true rfl) ⟨Nat.zero_le _, Nat.zero_le _⟩ dX12_goSeeded_1 (pc' := 4) rfl ?_
  rintro h1 ⟨eN, sd1, g22, hex, hM, hR, hdr, hd0, hsd, hO⟩
  refine g_aload_n C 0 dX12_goSeeded_4 rfl rfl rfl ?_
  refine g_bipush C (v := 10) dX12_goSeeded_5 (by decide) rfl ?_
  refine g_callVi C (As := [.int (10)]) (q := (RX12, TX12, 36)) (k_X12_draw l D b z (sd := sd1) hsd hM hR) hw_12_190 (hM) rfl (by decide) rfl rfl (Nat.le_of_ble_eq_true rfl) ⟨Nat.zero_le _, Nat.zero_le _⟩ dX12_goSeeded_7 (pc' := 10) rfl ?_
  rintro r2 h3 ⟨er, hM, hR, fr4⟩
  subst er
  have hO : ∀ q, (q < m ∨ m + 16 ≤ q) → h3 q = h q := fun q hq => (fr4 q (by omega)).trans (hO q hq)
  have hd10 := drN_lt (lcgN sd1)
  refine g_aload_n C 0 dX12_goSeeded_10 rfl rfl rfl ?_
  refine gf_12_79 C (hM) (v := .int (nI (gN σ 4))) rfl dX12_goSeeded_11 rfl ?_
  refine g_icmp_ge C dX12_goSeeded_14 (tgt := 21) (by decide) (pc' := 17) rfl ?_ ?_
  · intro c14
    replace c14 := (nI_leI (a := gN σ 4) (b := drN (lcgN sd1)) (by omega) (by omega)).mp c14
    refine g_iconst C (v := 0) dX12_goSeeded_21 (by decide) rfl ?_
    refine g_istore_n C ([(1, .int (0)), (0, .ref (m))]) dX12_goSeeded_22 rfl (by decide) rfl rfl ?_
    refine g_aload_n C 1 dX12_goSeeded_23 rfl rfl rfl ?_
    refine g_dup C rfl dX12_goSeeded_24 rfl ?_
    refine gf_12_196 C (hM) (v := .int (s24)) rfl dX12_goSeeded_25 rfl ?_
    refine g_iload_n C 0 dX12_goSeeded_28 rfl rfl rfl ?_
    refine g_if_eq C dX12_goSeeded_29 (tgt := 36) (by decide) (pc' := 32) rfl (fun _ => ?_) (fun c29 => absurd (by decide) c29)
    refine g_iconst C (v := 0) dX12_goSeeded_36 (by decide) rfl ?_
    refine g_iadd C dX12_goSeeded_37 rfl ?_
    refine pf_12_196 C (hM) (v := .int ((s24) + (0))) rfl rfl (Nat.le_of_ble_eq_true rfl) dX12_goSeeded_38 (pc' := 41) rfl (fun h5 e6 o7 => ?_)
    have hM : MdO h5 m (σ) (lN (lcgN sd1)) (s19) (s20) (nI (gN σ 3)) ((s24) + (0)) (s35) := e6
    have hR : MdR D h5 m (σ) (f21) (g22) := hR.fr (fun q g1 g2 => o7 q (by omega))
    have hO : ∀ q, (q < m ∨ m + 16 ≤ q) → h5 q = h q := fun q hq => (o7 q (by omega)).trans (hO q hq)
    refine g_aload_n C 1 dX12_goSeeded_41 rfl rfl rfl ?_
    refine gf_12_13 C (hM) (v := .ref (m + 2)) rfl dX12_goSeeded_42 rfl ?_
    refine g_aload_n C 1 dX12_goSeeded_45 rfl rfl rfl ?_
    refine gf_12_76 C (hM) (v := .int (nI (gN σ 3))) rfl dX12_goSeeded_46 rfl ?_
    refine g_iload_n C 0 dX12_goSeeded_49 rfl rfl rfl ?_
    refine g_if_eq C dX12_goSeeded_50 (tgt := 69) (by decide) (pc' := 53) rfl (fun _ => ?_) (fun c50 => absurd (by decide) c50)
    refine g_aload_n C 1 dX12_goSeeded_69 rfl rfl rfl ?_
    refine gf_12_41 C (hM) (v := .ref (m + 11)) rfl dX12_goSeeded_70 rfl ?_
    refine g_aload_n C 1 dX12_goSeeded_73 rfl rfl rfl ?_
    refine gf_12_76 C (hM) (v := .int (nI (gN σ 3))) rfl dX12_goSeeded_74 rfl ?_
    refine g_iald' C (hR.2.2.2.2.2.2.2.2.2.2.1) (j := gN σ 3) rfl (by omega) (by decide) dX12_goSeeded_77 rfl ?_
    refine g_topi (y := nI (eN (gN σ 3))) ((hdr _ (by omega) (by omega)).1) ?_
    refine g_topi (y := nI (gsY σ eN sd1)) (congrArg nI (gsY_f (Nat.not_lt.mpr c14)).symm) ?_
    refine g_iast' C (hR.2.1) (j := gN σ 3) rfl (by omega) (by decide) dX12_goSeeded_78 (pc' := 79) rfl (fun h8 e9 o10 => ?_)
    have hM : MdO h8 m (uB (σ) 7 (upd (gB σ 7) (gN σ 3) (nI (gsY σ eN sd1)))) (lN (lcgN sd1)) (s19) (s20) (nI (gN σ 3)) ((s24) + (0)) (s35) := (o10 _ (by omega)).trans hM
    have hR : MdR D h8 m (uB (σ) 7 (upd (gB σ 7) (gN σ 3) (nI (gsY σ eN sd1)))) (f21) (g22) := ⟨(o10 _ (by omega)).trans hR.1, e9, (o10 _ (by omega)).trans hR.2.2.1, (o10 _ (by omega)).trans hR.2.2.2.1, (o10 _ (by omega)).trans hR.2.2.2.2.1, (o10 _ (by omega)).trans hR.2.2.2.2.2.1, (o10 _ (by omega)).trans hR.2.2.2.2.2.2.1, (o10 _ (by omega)).trans hR.2.2.2.2.2.2.2.1, (o10 _ (by omega)).trans hR.2.2.2.2.2.2.2.2.1, (o10 _ (by omega)).trans hR.2.2.2.2.2.2.2.2.2.1, (o10 _ (by omega)).trans hR.2.2.2.2.2.2.2.2.2.2.1, (o10 _ (by omega)).trans hR.2.2.2.2.2.2.2.2.2.2.2.1, (o10 _ (by omega)).trans hR.2.2.2.2.2.2.2.2.2.2.2.2.1, (o10 _ (by omega)).trans hR.2.2.2.2.2.2.2.2.2.2.2.2.2.1, (o10 _ (by omega)).trans hR.2.2.2.2.2.2.2.2.2.2.2.2.2.2⟩
    have hO : ∀ q, (q < m ∨ m + 16 ≤ q) → h8 q = h q := fun q hq => (o10 q (by omega)).trans (hO q hq)
    refine g_aload_n C 1 dX12_goSeeded_79 rfl rfl rfl ?_
    refine gf_12_41 C (hM) (v := .ref (m + 11)) rfl dX12_goSeeded_80 rfl ?_
    refine g_iconst C (v := 1) dX12_goSeeded_83 (by decide) rfl ?_
    refine g_iald' C (hR.2.2.2.2.2.2.2.2.2.2.1) (j := 1) rfl (by omega) (by decide) dX12_goSeeded_84 rfl ?_
    refine g_topi (y := nI (eN (1))) ((hdr _ (by omega) (by omega)).1) ?_
    refine g_istore_n C ([(2, .int (nI (eN (1)))), (1, .int (0)), (0, .ref (m))]) dX12_goSeeded_85 rfl (by decide) rfl rfl ?_
    refine g_aload_n C 2 dX12_goSeeded_86 rfl rfl rfl ?_
    refine g_iload_n C 0 dX12_goSeeded_87 rfl rfl rfl ?_
    refine g_iconst C (v := 0) dX12_goSeeded_88 (by decide) rfl ?_
    have hw3 : eN 1 < 3 := (hdr 1 (by omega) (by omega)).2
    have hM : MdO h8 m (gsS σ eN sd1) (lN (lcgN sd1)) (s19) (s20) (nI (gN σ 3)) ((s24) + (0)) (s35) := hM
    have hR : MdR D h8 m (gsS σ eN sd1) f21 g22 := hR
    refine g_callVi C (As := [.int (nI (eN (1))), .int (0)]) (q := (RX12, TX12, 36)) (k0_X12_goDay l D b z hM hR h6 hn8 (w := eN 1) hw3) hw_12_125 (hM) rfl (by decide) rfl rfl (Nat.le_of_ble_eq_true rfl) ⟨Nat.zero_le _, Nat.zero_le _⟩ dX12_goSeeded_89 (pc' := 92) rfl ?_
    rintro r11 h12 ⟨er, hM, hR, fr13⟩
    subst er
    have hO : ∀ q, (q < m ∨ m + 16 ≤ q) → h12 q = h q := fun q hq => (fr13 q (by omega)).trans (hO q hq)
    refine g_istore_n C ([(3, .int (saM (gsS σ eN sd1) (eN 1) (gN σ 8))), (2, .int (nI (eN (1)))), (1, .int (0)), (0, .ref (m))]) dX12_goSeeded_92 rfl (by decide) rfl rfl ?_
    refine g_iconst C (v := 1) dX12_goSeeded_93 (by decide) rfl ?_
    refine g_istore C ([(4, .int (1)), (3, .int (saM (gsS σ eN sd1) (eN 1) (gN σ 8))), (2, .int (nI (eN (1)))), (1, .int (0)), (0, .ref (m))]) dX12_goSeeded_94 (by decide) rfl rfl ?_
    have loop96 : ∀ (N : Nat) (k : Nat) (h1 : qH) (g1 : Nat → Int32), gN σ 3 + 1 - k < N → (1 ≤ k) → (k ≤ gN σ 3) → (MdO h1 m ((dyM0 (gsS σ eN sd1) (eN 1))) (lN (lcgN sd1)) (s19) (s20) (nI (gN σ 3)) ((s24) + (0)) (s35)) → (MdR D h1 m ((dyM0 (gsS σ eN sd1) (eN 1))) (f21) (g1)) → (∀ q, (q < m ∨ m + 16 ≤ q) → h1 q = h q) → (∀ j, 1 ≤ j → j ≤ gN σ 3 → g1 j = if j < k then nI (eN (j + 1)) else nI (eN j)) → qG X 0 0 z h1 96 [(4, .int (nI (k))), (3, .int (saM (gsS σ eN sd1) (eN 1) (gN σ 8))), (0, .ref (m))] [] := by
      intro N
      induction N with
      | zero => intro k h1 g1 hm; exact absurd hm (Nat.not_lt_zero _)
      | succ N ih96 =>
        intro k h1 g1 hm hk1 hke hM hR hO hg
        refine g_iload C 0 dX12_goSeeded_96 rfl rfl ?_
        refine g_aload_n C 2 dX12_goSeeded_98 rfl rfl rfl ?_
        refine gf_12_187 C (hM) (v := .int (nI (gN σ 3))) rfl dX12_goSeeded_99 rfl ?_
        refine g_icmp_ge C dX12_goSeeded_102 (tgt := 127) (by decide) (pc' := 105) rfl ?_ ?_
        · intro c102
          replace c102 := (nI_leI (a := gN σ 3) (b := k) (by omega) (by omega)).mp c102
          refine g_aload_n C 2 dX12_goSeeded_127 rfl rfl rfl ?_
          refine g_dup C rfl dX12_goSeeded_128 rfl ?_
          refine gf_12_187 C (hM) (v := .int (nI (gN σ 3))) rfl dX12_goSeeded_129 rfl ?_
          refine g_iconst C (v := 1) dX12_goSeeded_132 (by decide) rfl ?_
          refine g_isub C dX12_goSeeded_133 rfl ?_
          refine g_topi (y := nI (gN σ 3 - 1)) (nI_sub' (a := gN σ 3) (b := 1) (by omega)) ?_
          refine pf_12_187 C (hM) (v := .int (nI (gN σ 3 - 1))) rfl rfl (Nat.le_of_ble_eq_true rfl) dX12_goSeeded_134 (pc' := 137) rfl (fun h14 e15 o16 => ?_)
          have hM : MdO h14 m ((dyM0 (gsS σ eN sd1) (eN 1))) (lN (lcgN sd1)) (s19) (s20) (nI (gN σ 3 - 1)) ((s24) + (0)) (s35) := e15
          have hR : MdR D h14 m ((dyM0 (gsS σ eN sd1) (eN 1))) (f21) (g1) := hR.fr (fun q g1 g2 => o16 q (by omega))
          have hO : ∀ q, (q < m ∨ m + 16 ≤ q) → h14 q = h q := fun q hq => (o16 q (by omega)).trans (hO q hq)
          refine g_iload_n C 1 dX12_goSeeded_137 rfl rfl rfl ?_
          exact ret _ _ _ _ dX12_goSeeded_138 rfl (⟨eN, sd1, g1, hex, rfl, by rw [if_neg (Nat.not_lt.mpr c14)]; exact hM, hR, fun j g1_ g2_ => by have q := hg j g1_ (by omega); rw [if_pos (by omega)] at q; exact ⟨q, (hdr (j + 1) (by omega) (by omega)).2⟩, (hdr 1 (by omega) (by omega)).2, hO⟩)
        · intro c102
          replace c102 := (not_congr (nI_leI (a := gN σ 3) (b := k) (by omega) (by omega))).mp c102
          refine g_aload_n C 2 dX12_goSeeded_105 rfl rfl rfl ?_
          refine gf_12_41 C (hM) (v := .ref (m + 11)) rfl dX12_goSeeded_106 rfl ?_
          refine g_iload C 0 dX12_goSeeded_109 rfl rfl ?_
          refine g_aload_n C 2 dX12_goSeeded_111 rfl rfl rfl ?_
          refine gf_12_41 C (hM) (v := .ref (m + 11)) rfl dX12_goSeeded_112 rfl ?_
          refine g_iload C 0 dX12_goSeeded_115 rfl rfl ?_
          refine g_iconst C (v := 1) dX12_goSeeded_117 (by decide) rfl ?_
          refine g_iadd C dX12_goSeeded_118 rfl ?_
          refine g_topi (y := nI (k + 1)) (nI_add _ _) ?_
          refine g_iald' C (hR.2.2.2.2.2.2.2.2.2.2.1) (j := (k + 1)) rfl (by omega) (by decide) dX12_goSeeded_119 rfl ?_
          refine g_topi (y := nI (eN (k + 1))) (by rw [hg _ (by omega) (by omega), if_neg (by omega)]) ?_
          refine g_iast' C (hR.2.2.2.2.2.2.2.2.2.2.1) (j := k) rfl (by omega) (by decide) dX12_goSeeded_120 (pc' := 121) rfl (fun h17 e18 o19 => ?_)
          have hM : MdO h17 m ((dyM0 (gsS σ eN sd1) (eN 1))) (lN (lcgN sd1)) (s19) (s20) (nI (gN σ 3)) ((s24) + (0)) (s35) := (o19 _ (by omega)).trans hM
          have hR : MdR D h17 m ((dyM0 (gsS σ eN sd1) (eN 1))) (f21) (upd (g1) (k) (nI (eN (k + 1)))) := ⟨(o19 _ (by omega)).trans hR.1, (o19 _ (by omega)).trans hR.2.1, (o19 _ (by omega)).trans hR.2.2.1, (o19 _ (by omega)).trans hR.2.2.2.1, (o19 _ (by omega)).trans hR.2.2.2.2.1, (o19 _ (by omega)).trans hR.2.2.2.2.2.1, (o19 _ (by omega)).trans hR.2.2.2.2.2.2.1, (o19 _ (by omega)).trans hR.2.2.2.2.2.2.2.1, (o19 _ (by omega)).trans hR.2.2.2.2.2.2.2.2.1, (o19 _ (by omega)).trans hR.2.2.2.2.2.2.2.2.2.1, e18, (o19 _ (by omega)).trans hR.2.2.2.2.2.2.2.2.2.2.2.1, (o19 _ (by omega)).trans hR.2.2.2.2.2.2.2.2.2.2.2.2.1, (o19 _ (by omega)).trans hR.2.2.2.2.2.2.2.2.2.2.2.2.2.1, (o19 _ (by omega)).trans hR.2.2.2.2.2.2.2.2.2.2.2.2.2.2⟩
          have hO : ∀ q, (q < m ∨ m + 16 ≤ q) → h17 q = h q := fun q hq => (o19 q (by omega)).trans (hO q hq)
          refine g_iinc C (v := nI (k + 1)) 0 ([(4, .int (nI (k + 1))), (3, .int (saM (gsS σ eN sd1) (eN 1) (gN σ 8))), (0, .ref (m))]) dX12_goSeeded_121 rfl (nI_1 _) (by decide) rfl rfl ?_
          refine g_goto C dX12_goSeeded_124 (tgt := 96) (by decide) ?_
          exact ih96 (k + 1) (h17) (upd (g1) (k) (nI (eN (k + 1)))) (by omega) (by omega) (by omega) (hM) (hR) (hO) (fun j g1_ g2_ => by
              by_cases e : j = k
              · subst e; simp only [upd, if_true]; rw [if_pos (by omega)]
              · simp only [upd, if_neg e]; rw [hg j g1_ g2_]; by_cases q : j < k; rw [if_pos q, if_pos (by omega)]; rw [if_neg q, if_neg (by omega)])
    refine q_lsub [0, 1, 4] (L' := [(4, .int (1)), (3, .int (saM (gsS σ eN sd1) (eN 1) (gN σ 8))), (0, .ref (m))]) rfl ?_
    exact loop96 _ (1) (h12) (g22) (Nat.lt_succ_self _) (by omega) (hn31) (hM) (hR) (hO) (fun j g1_ g2_ => by rw [if_neg (by omega)]; exact (hdr j g1_ g2_).1)
  · intro c14
    replace c14 := (not_congr (nI_leI (a := gN σ 4) (b := drN (lcgN sd1)) (by omega) (by omega))).mp c14
    refine g_iconst C (v := 1) dX12_goSeeded_17 (by decide) rfl ?_
    refine g_goto C dX12_goSeeded_18 (tgt := 22) (by decide) ?_
    refine g_istore_n C ([(1, .int (1)), (0, .ref (m))]) dX12_goSeeded_22 rfl (by decide) rfl rfl ?_
    refine g_aload_n C 1 dX12_goSeeded_23 rfl rfl rfl ?_
    refine g_dup C rfl dX12_goSeeded_24 rfl ?_
    refine gf_12_196 C (hM) (v := .int (s24)) rfl dX12_goSeeded_25 rfl ?_
    refine g_iload_n C 0 dX12_goSeeded_28 rfl rfl rfl ?_
    refine g_if_eq C dX12_goSeeded_29 (tgt := 36) (by decide) (pc' := 32) rfl (fun c29 => absurd c29 (by decide)) (fun _ => ?_)
    refine g_iconst C (v := 1) dX12_goSeeded_32 (by decide) rfl ?_
    refine g_goto C dX12_goSeeded_33 (tgt := 37) (by decide) ?_
    refine g_iadd C dX12_goSeeded_37 rfl ?_
    refine pf_12_196 C (hM) (v := .int ((s24) + (1))) rfl rfl (Nat.le_of_ble_eq_true rfl) dX12_goSeeded_38 (pc' := 41) rfl (fun h20 e21 o22 => ?_)
    have hM : MdO h20 m (σ) (lN (lcgN sd1)) (s19) (s20) (nI (gN σ 3)) ((s24) + (1)) (s35) := e21
    have hR : MdR D h20 m (σ) (f21) (g22) := hR.fr (fun q g1 g2 => o22 q (by omega))
    have hO : ∀ q, (q < m ∨ m + 16 ≤ q) → h20 q = h q := fun q hq => (o22 q (by omega)).trans (hO q hq)
    refine g_aload_n C 1 dX12_goSeeded_41 rfl rfl rfl ?_
    refine gf_12_13 C (hM) (v := .ref (m + 2)) rfl dX12_goSeeded_42 rfl ?_
    refine g_aload_n C 1 dX12_goSeeded_45 rfl rfl rfl ?_
    refine gf_12_76 C (hM) (v := .int (nI (gN σ 3))) rfl dX12_goSeeded_46 rfl ?_
    refine g_iload_n C 0 dX12_goSeeded_49 rfl rfl rfl ?_
    refine g_if_eq C dX12_goSeeded_50 (tgt := 69) (by decide) (pc' := 53) rfl (fun c50 => absurd c50 (by decide)) (fun _ => ?_)
    refine g_aload_n C 1 dX12_goSeeded_53 rfl rfl rfl ?_
    refine gf_12_41 C (hM) (v := .ref (m + 11)) rfl dX12_goSeeded_54 rfl ?_
    refine g_aload_n C 1 dX12_goSeeded_57 rfl rfl rfl ?_
    refine gf_12_76 C (hM) (v := .int (nI (gN σ 3))) rfl dX12_goSeeded_58 rfl ?_
    refine g_iald' C (hR.2.2.2.2.2.2.2.2.2.2.1) (j := gN σ 3) rfl (by omega) (by decide) dX12_goSeeded_61 rfl ?_
    refine g_topi (y := nI (eN (gN σ 3))) ((hdr _ (by omega) (by omega)).1) ?_
    refine g_iconst C (v := 1) dX12_goSeeded_62 (by decide) rfl ?_
    refine g_iadd C dX12_goSeeded_63 rfl ?_
    refine g_topi (y := nI (eN (gN σ 3) + 1)) (nI_add _ _) ?_
    refine g_iconst C (v := 3) dX12_goSeeded_64 (by decide) rfl ?_
    refine g_irem C dX12_goSeeded_65 (by decide) rfl ?_
    refine g_topi (y := nI ((eN (gN σ 3) + 1) % 3)) (rem_nI (a := (eN (gN σ 3) + 1)) (d := 3) (by have := (hdr (gN σ 3) (by omega) (by omega)).2; omega) (by decide) (by decide)) ?_
    refine g_goto C dX12_goSeeded_66 (tgt := 78) (by decide) ?_
    refine g_topi (y := nI (gsY σ eN sd1)) (congrArg nI (gsY_t (Nat.not_le.mp c14)).symm) ?_
    refine g_iast' C (hR.2.1) (j := gN σ 3) rfl (by omega) (by decide) dX12_goSeeded_78 (pc' := 79) rfl (fun h23 e24 o25 => ?_)
    have hM : MdO h23 m (uB (σ) 7 (upd (gB σ 7) (gN σ 3) (nI (gsY σ eN sd1)))) (lN (lcgN sd1)) (s19) (s20) (nI (gN σ 3)) ((s24) + (1)) (s35) := (o25 _ (by omega)).trans hM
    have hR : MdR D h23 m (uB (σ) 7 (upd (gB σ 7) (gN σ 3) (nI (gsY σ eN sd1)))) (f21) (g22) := ⟨(o25 _ (by omega)).trans hR.1, e24, (o25 _ (by omega)).trans hR.2.2.1, (o25 _ (by omega)).trans hR.2.2.2.1, (o25 _ (by omega)).trans hR.2.2.2.2.1, (o25 _ (by omega)).trans hR.2.2.2.2.2.1, (o25 _ (by omega)).trans hR.2.2.2.2.2.2.1, (o25 _ (by omega)).trans hR.2.2.2.2.2.2.2.1, (o25 _ (by omega)).trans hR.2.2.2.2.2.2.2.2.1, (o25 _ (by omega)).trans hR.2.2.2.2.2.2.2.2.2.1, (o25 _ (by omega)).trans hR.2.2.2.2.2.2.2.2.2.2.1, (o25 _ (by omega)).trans hR.2.2.2.2.2.2.2.2.2.2.2.1, (o25 _ (by omega)).trans hR.2.2.2.2.2.2.2.2.2.2.2.2.1, (o25 _ (by omega)).trans hR.2.2.2.2.2.2.2.2.2.2.2.2.2.1, (o25 _ (by omega)).trans hR.2.2.2.2.2.2.2.2.2.2.2.2.2.2⟩
    have hO : ∀ q, (q < m ∨ m + 16 ≤ q) → h23 q = h q := fun q hq => (o25 q (by omega)).trans (hO q hq)
    refine g_aload_n C 1 dX12_goSeeded_79 rfl rfl rfl ?_
    refine gf_12_41 C (hM) (v := .ref (m + 11)) rfl dX12_goSeeded_80 rfl ?_
    refine g_iconst C (v := 1) dX12_goSeeded_83 (by decide) rfl ?_
    refine g_iald' C (hR.2.2.2.2.2.2.2.2.2.2.1) (j := 1) rfl (by omega) (by decide) dX12_goSeeded_84 rfl ?_
    refine g_topi (y := nI (eN (1))) ((hdr _ (by omega) (by omega)).1) ?_
    refine g_istore_n C ([(2, .int (nI (eN (1)))), (1, .int (1)), (0, .ref (m))]) dX12_goSeeded_85 rfl (by decide) rfl rfl ?_
    refine g_aload_n C 2 dX12_goSeeded_86 rfl rfl rfl ?_
    refine g_iload_n C 0 dX12_goSeeded_87 rfl rfl rfl ?_
    refine g_iconst C (v := 0) dX12_goSeeded_88 (by decide) rfl ?_
    have hw3 : eN 1 < 3 := (hdr 1 (by omega) (by omega)).2
    have hM : MdO h23 m (gsS σ eN sd1) (lN (lcgN sd1)) (s19) (s20) (nI (gN σ 3)) ((s24) + (1)) (s35) := hM
    have hR : MdR D h23 m (gsS σ eN sd1) f21 g22 := hR
    refine g_callVi C (As := [.int (nI (eN (1))), .int (0)]) (q := (RX12, TX12, 36)) (k0_X12_goDay l D b z hM hR h6 hn8 (w := eN 1) hw3) hw_12_125 (hM) rfl (by decide) rfl rfl (Nat.le_of_ble_eq_true rfl) ⟨Nat.zero_le _, Nat.zero_le _⟩ dX12_goSeeded_89 (pc' := 92) rfl ?_
    rintro r26 h27 ⟨er, hM, hR, fr28⟩
    subst er
    have hO : ∀ q, (q < m ∨ m + 16 ≤ q) → h27 q = h q := fun q hq => (fr28 q (by omega)).trans (hO q hq)
    refine g_istore_n C ([(3, .int (saM (gsS σ eN sd1) (eN 1) (gN σ 8))), (2, .int (nI (eN (1)))), (1, .int (1)), (0, .ref (m))]) dX12_goSeeded_92 rfl (by decide) rfl rfl ?_
    refine g_iconst C (v := 1) dX12_goSeeded_93 (by decide) rfl ?_
    refine g_istore C ([(4, .int (1)), (3, .int (saM (gsS σ eN sd1) (eN 1) (gN σ 8))), (2, .int (nI (eN (1)))), (1, .int (1)), (0, .ref (m))]) dX12_goSeeded_94 (by decide) rfl rfl ?_
    have loop96 : ∀ (N : Nat) (k : Nat) (h1 : qH) (g1 : Nat → Int32), gN σ 3 + 1 - k < N → (1 ≤ k) → (k ≤ gN σ 3) → (MdO h1 m ((dyM0 (gsS σ eN sd1) (eN 1))) (lN (lcgN sd1)) (s19) (s20) (nI (gN σ 3)) ((s24) + (1)) (s35)) → (MdR D h1 m ((dyM0 (gsS σ eN sd1) (eN 1))) (f21) (g1)) → (∀ q, (q < m ∨ m + 16 ≤ q) → h1 q = h q) → (∀ j, 1 ≤ j → j ≤ gN σ 3 → g1 j = if j < k then nI (eN (j + 1)) else nI (eN j)) → qG X 0 0 z h1 96 [(4, .int (nI (k))), (3, .int (saM (gsS σ eN sd1) (eN 1) (gN σ 8))), (0, .ref (m))] [] := by
      intro N
      induction N with
      | zero => intro k h1 g1 hm; exact absurd hm (Nat.not_lt_zero _)
      | succ N ih96 =>
        intro k h1 g1 hm hk1 hke hM hR hO hg
        refine g_iload C 0 dX12_goSeeded_96 rfl rfl ?_
        refine g_aload_n C 2 dX12_goSeeded_98 rfl rfl rfl ?_
        refine gf_12_187 C (hM) (v := .int (nI (gN σ 3))) rfl dX12_goSeeded_99 rfl ?_
        refine g_icmp_ge C dX12_goSeeded_102 (tgt := 127) (by decide) (pc' := 105) rfl ?_ ?_
        · intro c102
          replace c102 := (nI_leI (a := gN σ 3) (b := k) (by omega) (by omega)).mp c102
          refine g_aload_n C 2 dX12_goSeeded_127 rfl rfl rfl ?_
          refine g_dup C rfl dX12_goSeeded_128 rfl ?_
          refine gf_12_187 C (hM) (v := .int (nI (gN σ 3))) rfl dX12_goSeeded_129 rfl ?_
          refine g_iconst C (v := 1) dX12_goSeeded_132 (by decide) rfl ?_
          refine g_isub C dX12_goSeeded_133 rfl ?_
          refine g_topi (y := nI (gN σ 3 - 1)) (nI_sub' (a := gN σ 3) (b := 1) (by omega)) ?_
          refine pf_12_187 C (hM) (v := .int (nI (gN σ 3 - 1))) rfl rfl (Nat.le_of_ble_eq_true rfl) dX12_goSeeded_134 (pc' := 137) rfl (fun h29 e30 o31 => ?_)
          have hM : MdO h29 m ((dyM0 (gsS σ eN sd1) (eN 1))) (lN (lcgN sd1)) (s19) (s20) (nI (gN σ 3 - 1)) ((s24) + (1)) (s35) := e30
          have hR : MdR D h29 m ((dyM0 (gsS σ eN sd1) (eN 1))) (f21) (g1) := hR.fr (fun q g1 g2 => o31 q (by omega))
          have hO : ∀ q, (q < m ∨ m + 16 ≤ q) → h29 q = h q := fun q hq => (o31 q (by omega)).trans (hO q hq)
          refine g_iload_n C 1 dX12_goSeeded_137 rfl rfl rfl ?_
          exact ret _ _ _ _ dX12_goSeeded_138 rfl (⟨eN, sd1, g1, hex, rfl, by rw [if_pos (Nat.not_le.mp c14)]; exact hM, hR, fun j g1_ g2_ => by have q := hg j g1_ (by omega); rw [if_pos (by omega)] at q; exact ⟨q, (hdr (j + 1) (by omega) (by omega)).2⟩, (hdr 1 (by omega) (by omega)).2, hO⟩)
        · intro c102
          replace c102 := (not_congr (nI_leI (a := gN σ 3) (b := k) (by omega) (by omega))).mp c102
          refine g_aload_n C 2 dX12_goSeeded_105 rfl rfl rfl ?_
          refine gf_12_41 C (hM) (v := .ref (m + 11)) rfl dX12_goSeeded_106 rfl ?_
          refine g_iload C 0 dX12_goSeeded_109 rfl rfl ?_
          refine g_aload_n C 2 dX12_goSeeded_111 rfl rfl rfl ?_
          refine gf_12_41 C (hM) (v := .ref (m + 11)) rfl dX12_goSeeded_112 rfl ?_
          refine g_iload C 0 dX12_goSeeded_115 rfl rfl ?_
          refine g_iconst C (v := 1) dX12_goSeeded_117 (by decide) rfl ?_
          refine g_iadd C dX12_goSeeded_118 rfl ?_
          refine g_topi (y := nI (k + 1)) (nI_add _ _) ?_
          refine g_iald' C (hR.2.2.2.2.2.2.2.2.2.2.1) (j := (k + 1)) rfl (by omega) (by decide) dX12_goSeeded_119 rfl ?_
          refine g_topi (y := nI (eN (k + 1))) (by rw [hg _ (by omega) (by omega), if_neg (by omega)]) ?_
          refine g_iast' C (hR.2.2.2.2.2.2.2.2.2.2.1) (j := k) rfl (by omega) (by decide) dX12_goSeeded_120 (pc' := 121) rfl (fun h32 e33 o34 => ?_)
          have hM : MdO h32 m ((dyM0 (gsS σ eN sd1) (eN 1))) (lN (lcgN sd1)) (s19) (s20) (nI (gN σ 3)) ((s24) + (1)) (s35) := (o34 _ (by omega)).trans hM
          have hR : MdR D h32 m ((dyM0 (gsS σ eN sd1) (eN 1))) (f21) (upd (g1) (k) (nI (eN (k + 1)))) := ⟨(o34 _ (by omega)).trans hR.1, (o34 _ (by omega)).trans hR.2.1, (o34 _ (by omega)).trans hR.2.2.1, (o34 _ (by omega)).trans hR.2.2.2.1, (o34 _ (by omega)).trans hR.2.2.2.2.1, (o34 _ (by omega)).trans hR.2.2.2.2.2.1, (o34 _ (by omega)).trans hR.2.2.2.2.2.2.1, (o34 _ (by omega)).trans hR.2.2.2.2.2.2.2.1, (o34 _ (by omega)).trans hR.2.2.2.2.2.2.2.2.1, (o34 _ (by omega)).trans hR.2.2.2.2.2.2.2.2.2.1, e33, (o34 _ (by omega)).trans hR.2.2.2.2.2.2.2.2.2.2.2.1, (o34 _ (by omega)).trans hR.2.2.2.2.2.2.2.2.2.2.2.2.1, (o34 _ (by omega)).trans hR.2.2.2.2.2.2.2.2.2.2.2.2.2.1, (o34 _ (by omega)).trans hR.2.2.2.2.2.2.2.2.2.2.2.2.2.2⟩
          have hO : ∀ q, (q < m ∨ m + 16 ≤ q) → h32 q = h q := fun q hq => (o34 q (by omega)).trans (hO q hq)
          refine g_iinc C (v := nI (k + 1)) 0 ([(4, .int (nI (k + 1))), (3, .int (saM (gsS σ eN sd1) (eN 1) (gN σ 8))), (0, .ref (m))]) dX12_goSeeded_121 rfl (nI_1 _) (by decide) rfl rfl ?_
          refine g_goto C dX12_goSeeded_124 (tgt := 96) (by decide) ?_
          exact ih96 (k + 1) (h32) (upd (g1) (k) (nI (eN (k + 1)))) (by omega) (by omega) (by omega) (hM) (hR) (hO) (fun j g1_ g2_ => by
              by_cases e : j = k
              · subst e; simp only [upd, if_true]; rw [if_pos (by omega)]
              · simp only [upd, if_neg e]; rw [hg j g1_ g2_]; by_cases q : j < k; rw [if_pos q, if_pos (by omega)]; rw [if_neg q, if_neg (by omega)])
    refine q_lsub [0, 1, 4] (L' := [(4, .int (1)), (3, .int (saM (gsS σ eN sd1) (eN 1) (gN σ 8))), (0, .ref (m))]) rfl ?_
    exact loop96 _ (1) (h27) (g22) (Nat.lt_succ_self _) (by omega) (hn31) (hM) (hR) (hO) (fun j g1_ g2_ => by rw [if_neg (by omega)]; exact (hdr j g1_ g2_).1)

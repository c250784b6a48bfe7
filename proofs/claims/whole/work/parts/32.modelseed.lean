/-! the reference model: days by a seed -/
theorem lN_and31 {x : Nat} (hx : x < 2 ^ 63) : lN x &&& 2147483647 = lN (x % 2147483648) := by
  apply Int64.toBitVec_inj.mp
  rw [Int64.toBitVec_and]
  apply BitVec.eq_of_toNat_eq
  rw [BitVec.toNat_and]
  have e1 : (lN x).toBitVec.toNat = x := by
    show (BitVec.ofNat 64 x).toNat = x
    rw [BitVec.toNat_ofNat]; exact Nat.mod_eq_of_lt (by omega)
  have e2 : (2147483647 : Int64).toBitVec.toNat = 2 ^ 31 - 1 := by decide
  have e3 : (lN (x % 2147483648)).toBitVec.toNat = x % 2147483648 := by
    show (BitVec.ofNat 64 _).toNat = _
    rw [BitVec.toNat_ofNat]; exact Nat.mod_eq_of_lt (by omega)
  rw [e1, e2, e3, Nat.and_two_pow_sub_one_eq_mod]
theorem lcg_m {s : Nat} (hs : s < 2147483648) : ((1103515245 : Int64) * lN s + 12345) &&& 2147483647 = lN (lcgN s) := by
  have e : (1103515245 : Int64) * lN s + 12345 = lN (1103515245 * s + 12345) := (congrArg (· + (12345 : Int64)) (lN_mul 1103515245 s)).trans (lN_add _ 12345)
  rw [e]
  exact lN_and31 (by omega)
set_option maxHeartbeats 4000000 in
set_option maxRecDepth 100000 in
theorem k_X12_draw (l : Launch) (D : va_G) (b z : Nat) {h : qH} {m : Nat} {σ : sg} {s35 : Int64} {s19 s20 s23 s24 : Int32} {f21 f22 : Nat → Int32} {sd : Nat} (hsd : sd < 2147483648) (hM : MdO h m (σ) (lN (sd)) (s19) (s20) (s23) (s24) (s35)) (hR : MdR D h m (σ) (f21) (f22)) : qMi l D b yX12_draw cX12_draw 2 .int 0 0 [.ref (m), .int (nI (10))] h z (fun r0 h' => r0 = nI (drN (lcgN sd)) ∧ MdO h' m (σ) (lN (lcgN sd)) (s19) (s20) (s23) (s24) (s35) ∧ MdR D h' m σ f21 f22 ∧ ∀ q, (q < m ∨ m + 16 ≤ q) → h' q = h q) := by
  refine q_i (L := [(0, .ref (m)), (1, .int (nI (10)))]) (own := RX12) (by decide) rfl (Nat.le_of_ble_eq_true rfl) rfl ?_
  intro X C ret
  have hO : ∀ q, (q < m ∨ m + 16 ≤ q) → h q = h q := fun _ _ => rfl
  refine g_aload_n C 0 dX12_draw_0 rfl rfl rfl ?_
  refine g_ldc2 C kl_12_175 dX12_draw_1 rfl ?_
  refine g_aload_n C 0 dX12_draw_4 rfl rfl rfl ?_
  refine gf_12_177 C (hM) (v := .long (lN (sd))) rfl dX12_draw_5 rfl ?_
  refine g_lmul C dX12_draw_8 rfl ?_
  refine g_ldc2 C kl_12_181 dX12_draw_9 rfl ?_
  refine g_ladd C dX12_draw_12 rfl ?_
  refine g_ldc2 C kl_12_183 dX12_draw_13 rfl ?_
  refine g_land C dX12_draw_16 rfl ?_
  refine g_topl (y := lN (lcgN sd)) (lcg_m hsd) ?_
  refine pf_12_177 C (hM) (v := .long (lN (lcgN sd))) rfl rfl (Nat.le_of_ble_eq_true rfl) dX12_draw_17 (pc' := 20) rfl (fun h1 e2 o3 => ?_)
  have hM : MdO h1 m (σ) (lN (lcgN sd)) (s19) (s20) (s23) (s24) (s35) := e2
  have hR : MdR D h1 m (σ) (f21) (f22) := hR.fr (fun q g1 g2 => o3 q (by omega))
  have hO : ∀ q, (q < m ∨ m + 16 ≤ q) → h1 q = h q := fun q hq => (o3 q (by omega)).trans (hO q hq)
  refine g_aload_n C 0 dX12_draw_20 rfl rfl rfl ?_
  refine gf_12_177 C (hM) (v := .long (lN (lcgN sd))) rfl dX12_draw_21 rfl ?_
  refine g_ldc2 C kl_12_185 dX12_draw_24 rfl ?_
  refine g_ldiv C dX12_draw_27 (by decide) rfl ?_
  refine g_iload_n C 1 dX12_draw_28 rfl rfl rfl ?_
  refine g_i2l C dX12_draw_29 rfl ?_
  refine g_lrem C dX12_draw_30 (by decide) rfl ?_
  refine g_l2i C dX12_draw_31 rfl ?_
  exact ret _ _ _ _ dX12_draw_32 rfl (⟨dr_eq (lcgN_lt _), hM, hR, hO⟩)
theorem exS_id (tN : Nat → Nat) (t0 : (Nat → Nat) × Nat × Nat) {k : Nat} (h : k ≤ t0.2.1) : exS tN t0 k = t0 := by
  induction k with
  | zero => rfl
  | succ k ih => simp only [exS]; rw [ih (by omega), if_pos h]
theorem exS_st {tN : Nat → Nat} {t0 : (Nat → Nat) × Nat × Nat} {k sd1 : Nat} {dN1 : Nat → Nat} (h : exS tN t0 k = (dN1, k, sd1)) : exS tN t0 (k + 1) = (va_up dN1 (k + 1) (dwN tN (dN1 k) (drN (lcgN sd1))), k + 1, lcgN sd1) := by
  simp only [exS]
  rw [h, if_neg (by simp)]
theorem dw0 {tN : Nat → Nat} {v d : Nat} (h : d < tN (3 * v)) : dwN tN v d = 0 := by unfold dwN; rw [Nat.mul_comm v 3, if_pos h]
theorem dw1 {tN : Nat → Nat} {v d : Nat} (h : ¬ d < tN (3 * v)) (h2 : d < tN (3 * v) + tN (3 * v + 1)) : dwN tN v d = 1 := by unfold dwN; rw [Nat.mul_comm v 3, if_neg h, if_pos h2]
theorem dw2 {tN : Nat → Nat} {v d : Nat} (h : ¬ d < tN (3 * v)) (h2 : ¬ d < tN (3 * v) + tN (3 * v + 1)) : dwN tN v d = 2 := by unfold dwN; rw [Nat.mul_comm v 3, if_neg h, if_neg h2]
set_option maxHeartbeats 4000000 in
set_option maxRecDepth 100000 in
theorem k_X12_drawDays (l : Launch) (D : va_G) (b z : Nat) {h : qH} {m : Nat} {σ : sg} {s35 : Int64} {s19 s20 s24 : Int32} {f21 f22 : Nat → Int32} {dN : Nat → Nat} {da sd : Nat} (hsd : sd < 2147483648) (h6 : gN σ 6 < 3) (h3 : gN σ 3 ≤ 4) (hIt : ∀ i, i < 9 → gA σ 2 i ≤ 10) (hda : da ≤ gN σ 3) (hdr : ∀ j, 1 ≤ j → j ≤ da → f22 j = nI (dN j) ∧ dN j < 3) (hd0 : dN 0 = gN σ 6) (hM : MdO h m (σ) (lN (sd)) (s19) (s20) (nI (da)) (s24) (s35)) (hR : MdR D h m (σ) (f21) (f22)) : qMv l D b yX12_drawDays cX12_drawDays 4 1 21 [.ref (m)] h z (fun h' => ∃ dN' sd' f22', exS (gA σ 2) (dN, da, sd) (gN σ 3) = (dN', gN σ 3, sd') ∧ MdO h' m (σ) (lN (sd')) (s19) (s20) (nI (gN σ 3)) (s24) (s35) ∧ MdR D h' m (σ) (f21) (f22') ∧ (∀ j, 1 ≤ j → j ≤ gN σ 3 → f22' j = nI (dN' j) ∧ dN' j < 3) ∧ dN' 0 = gN σ 6 ∧ sd' < 2147483648 ∧ ∀ q, (q < m ∨ m + 16 ≤ q) → h' q = h q) := by
  refine q_v (L := [(0, .ref (m))]) (own := RX12) (by decide) rfl (Nat.le_of_ble_eq_true rfl) rfl ?_
  intro X C ret
  have hO : ∀ q, (q < m ∨ m + 16 ≤ q) → h q = h q := fun _ _ => rfl
  have loop0 : ∀ (N : Nat) (da1 : Nat) (sd1 : Nat) (dN1 : Nat → Nat) (h1 : qH) (g22 : Nat → Int32), gN σ 3 - da1 < N → (da ≤ da1) → (da1 ≤ gN σ 3) → (MdO h1 m (σ) (lN (sd1)) (s19) (s20) (nI (da1)) (s24) (s35)) → (MdR D h1 m (σ) (f21) (g22)) → (∀ q, (q < m ∨ m + 16 ≤ q) → h1 q = h q) → (exS (gA σ 2) (dN, da, sd) da1 = (dN1, da1, sd1)) → (∀ j, 1 ≤ j → j ≤ da1 → g22 j = nI (dN1 j) ∧ dN1 j < 3) → (dN1 0 = gN σ 6) → (sd1 < 2147483648) → qG X 0 0 z h1 0 [(0, .ref (m))] [] := by
    intro N
    induction N with
    | zero => intro da1 sd1 dN1 h1 g22 hm; exact absurd hm (Nat.not_lt_zero _)
    | succ N ih0 =>
      intro da1 sd1 dN1 h1 g22 hm hda hde hM hR hO hex hdr hd0 hsd1
      refine g_aload_n C 0 dX12_drawDays_0 rfl rfl rfl ?_
      refine gf_12_187 C (hM) (v := .int (nI (da1))) rfl dX12_drawDays_1 rfl ?_
      refine g_aload_n C 0 dX12_drawDays_4 rfl rfl rfl ?_
      refine gf_12_76 C (hM) (v := .int (nI (gN σ 3))) rfl dX12_drawDays_5 rfl ?_
      refine g_icmp_ge C dX12_drawDays_8 (tgt := 103) (by decide) (pc' := 11) rfl ?_ ?_
      · intro c8
        replace c8 := (nI_leI (a := gN σ 3) (b := da1) (by omega) (by omega)).mp c8
        exact ret _ _ _ dX12_drawDays_103 (⟨dN1, sd1, g22, by rw [← show da1 = gN σ 3 by omega]; exact hex, by rw [← show da1 = gN σ 3 by omega]; exact hM, hR, fun j g1 g2 => hdr j g1 (by omega), hd0, hsd1, hO⟩)
      · intro c8
        replace c8 := (not_congr (nI_leI (a := gN σ 3) (b := da1) (by omega) (by omega))).mp c8
        refine g_aload_n C 0 dX12_drawDays_11 rfl rfl rfl ?_
        refine gf_12_187 C (hM) (v := .int (nI (da1))) rfl dX12_drawDays_12 rfl ?_
        refine g_if_ne C dX12_drawDays_15 (tgt := 25) (by decide) (pc' := 18) rfl ?_ ?_
        · intro c15
          replace c15 := (not_congr (nI_eq (a := da1) (b := 0) (by omega) (by omega))).mp c15
          refine g_aload_n C 0 dX12_drawDays_25 rfl rfl rfl ?_
          refine gf_12_41 C (hM) (v := .ref (m + 11)) rfl dX12_drawDays_26 rfl ?_
          refine g_aload_n C 0 dX12_drawDays_29 rfl rfl rfl ?_
          refine gf_12_187 C (hM) (v := .int (nI (da1))) rfl dX12_drawDays_30 rfl ?_
          refine g_iald' C (hR.2.2.2.2.2.2.2.2.2.2.1) (j := da1) rfl (by omega) (by decide) dX12_drawDays_33 rfl ?_
          have hv3 : dN1 da1 < 3 := by exact (hdr da1 (by omega) (by omega)).2
          refine g_topi (y := nI (dN1 da1)) ((hdr da1 (by omega) (by omega)).1) ?_
          refine g_istore_n C ([(1, .int (nI (dN1 da1))), (0, .ref (m))]) dX12_drawDays_34 rfl (by decide) rfl rfl ?_
          refine g_aload_n C 1 dX12_drawDays_35 rfl rfl rfl ?_
          refine g_bipush C (v := 10) dX12_drawDays_36 (by decide) rfl ?_
          refine g_callVi C (As := [.int (10)]) (q := (RX12, TX12, 36)) (k_X12_draw l D b z (sd := sd1) hsd1 hM hR) hw_12_190 (hM) rfl (by decide) rfl rfl (Nat.le_of_ble_eq_true rfl) ⟨Nat.zero_le _, Nat.zero_le _⟩ dX12_drawDays_38 (pc' := 41) rfl ?_
          rintro r1 h2 ⟨er, hM, hR, fr3⟩
          subst er
          have hO : ∀ q, (q < m ∨ m + 16 ≤ q) → h2 q = h q := fun q hq => (fr3 q (by omega)).trans (hO q hq)
          have hd10 := drN_lt (lcgN sd1)
          refine g_istore_n C ([(2, .int (nI (drN (lcgN sd1)))), (1, .int (nI (dN1 da1))), (0, .ref (m))]) dX12_drawDays_41 rfl (by decide) rfl rfl ?_
          refine g_aload_n C 2 dX12_drawDays_42 rfl rfl rfl ?_
          refine gf_12_7 C (hM) (v := .ref (m + 1)) rfl dX12_drawDays_43 rfl ?_
          refine g_iconst C (v := 3) dX12_drawDays_46 (by decide) rfl ?_
          refine g_iload_n C 1 dX12_drawDays_47 rfl rfl rfl ?_
          refine g_imul C dX12_drawDays_48 rfl ?_
          refine g_topi (y := nI (3 * dN1 da1)) (pk_mul _ _) ?_
          refine g_iald' C (hR.1) (j := (3 * dN1 da1)) rfl (by omega) (by decide) dX12_drawDays_49 rfl ?_
          refine g_topi (y := nI (gA σ 2 ((3 * dN1 da1)))) (rfl) ?_
          have ht1 := hIt (3 * dN1 da1) (by omega)
          have ht2 := hIt (3 * dN1 da1 + 1) (by omega)
          refine g_istore_n C ([(3, .int (nI (gA σ 2 ((3 * dN1 da1))))), (2, .int (nI (drN (lcgN sd1)))), (1, .int (nI (dN1 da1))), (0, .ref (m))]) dX12_drawDays_50 rfl (by decide) rfl rfl ?_
          refine g_aload_n C 3 dX12_drawDays_51 rfl rfl rfl ?_
          refine g_dup C rfl dX12_drawDays_52 rfl ?_
          refine gf_12_187 C (hM) (v := .int (nI (da1))) rfl dX12_drawDays_53 rfl ?_
          refine g_iconst C (v := 1) dX12_drawDays_56 (by decide) rfl ?_
          refine g_iadd C dX12_drawDays_57 rfl ?_
          refine g_topi (y := nI (da1 + 1)) (nI_add _ _) ?_
          refine pf_12_187 C (hM) (v := .int (nI ((da1 + 1)))) rfl rfl (Nat.le_of_ble_eq_true rfl) dX12_drawDays_58 (pc' := 61) rfl (fun h4 e5 o6 => ?_)
          have hM : MdO h4 m (σ) (lN (lcgN sd1)) (s19) (s20) (nI ((da1 + 1))) (s24) (s35) := e5
          have hR : MdR D h4 m (σ) (f21) (g22) := hR.fr (fun q g1 g2 => o6 q (by omega))
          have hO : ∀ q, (q < m ∨ m + 16 ≤ q) → h4 q = h q := fun q hq => (o6 q (by omega)).trans (hO q hq)
          refine g_aload_n C 3 dX12_drawDays_61 rfl rfl rfl ?_
          refine gf_12_41 C (hM) (v := .ref (m + 11)) rfl dX12_drawDays_62 rfl ?_
          refine g_aload_n C 3 dX12_drawDays_65 rfl rfl rfl ?_
          refine gf_12_187 C (hM) (v := .int (nI ((da1 + 1)))) rfl dX12_drawDays_66 rfl ?_
          refine g_iload_n C 1 dX12_drawDays_69 rfl rfl rfl ?_
          refine g_iload_n C 0 dX12_drawDays_70 rfl rfl rfl ?_
          refine g_icmp_ge C dX12_drawDays_71 (tgt := 78) (by decide) (pc' := 74) rfl ?_ ?_
          · intro c71
            replace c71 := (nI_leI (a := gA σ 2 ((3 * dN1 da1))) (b := drN (lcgN sd1)) (by omega) (by omega)).mp c71
            refine g_iload_n C 1 dX12_drawDays_78 rfl rfl rfl ?_
            refine g_iload_n C 0 dX12_drawDays_79 rfl rfl rfl ?_
            refine g_aload_n C 3 dX12_drawDays_80 rfl rfl rfl ?_
            refine gf_12_7 C (hM) (v := .ref (m + 1)) rfl dX12_drawDays_81 rfl ?_
            refine g_iconst C (v := 3) dX12_drawDays_84 (by decide) rfl ?_
            refine g_iload_n C 2 dX12_drawDays_85 rfl rfl rfl ?_
            refine g_imul C dX12_drawDays_86 rfl ?_
            refine g_topi (y := nI (3 * dN1 da1)) (pk_mul _ _) ?_
            refine g_iconst C (v := 1) dX12_drawDays_87 (by decide) rfl ?_
            refine g_iadd C dX12_drawDays_88 rfl ?_
            refine g_topi (y := nI ((3 * dN1 da1) + 1)) (nI_add _ _) ?_
            refine g_iald' C (hR.1) (j := ((3 * dN1 da1) + 1)) rfl (by omega) (by decide) dX12_drawDays_89 rfl ?_
            refine g_topi (y := nI (gA σ 2 (((3 * dN1 da1) + 1)))) (rfl) ?_
            refine g_iadd C dX12_drawDays_90 rfl ?_
            refine g_topi (y := nI (gA σ 2 ((3 * dN1 da1)) + gA σ 2 (((3 * dN1 da1) + 1)))) (nI_add _ _) ?_
            refine g_icmp_ge C dX12_drawDays_91 (tgt := 98) (by decide) (pc' := 94) rfl ?_ ?_
            · intro c91
              replace c91 := (nI_leI (a := (gA σ 2 ((3 * dN1 da1)) + gA σ 2 (((3 * dN1 da1) + 1)))) (b := drN (lcgN sd1)) (by omega) (by omega)).mp c91
              refine g_iconst C (v := 2) dX12_drawDays_98 (by decide) rfl ?_
              refine g_iast' C (hR.2.2.2.2.2.2.2.2.2.2.1) (j := (da1 + 1)) rfl (by omega) (by decide) dX12_drawDays_99 (pc' := 100) rfl (fun h7 e8 o9 => ?_)
              have hM : MdO h7 m (σ) (lN (lcgN sd1)) (s19) (s20) (nI ((da1 + 1))) (s24) (s35) := (o9 _ (by omega)).trans hM
              have hR : MdR D h7 m (σ) (f21) (upd (g22) ((da1 + 1)) (2)) := ⟨(o9 _ (by omega)).trans hR.1, (o9 _ (by omega)).trans hR.2.1, (o9 _ (by omega)).trans hR.2.2.1, (o9 _ (by omega)).trans hR.2.2.2.1, (o9 _ (by omega)).trans hR.2.2.2.2.1, (o9 _ (by omega)).trans hR.2.2.2.2.2.1, (o9 _ (by omega)).trans hR.2.2.2.2.2.2.1, (o9 _ (by omega)).trans hR.2.2.2.2.2.2.2.1, (o9 _ (by omega)).trans hR.2.2.2.2.2.2.2.2.1, (o9 _ (by omega)).trans hR.2.2.2.2.2.2.2.2.2.1, e8, (o9 _ (by omega)).trans hR.2.2.2.2.2.2.2.2.2.2.2.1, (o9 _ (by omega)).trans hR.2.2.2.2.2.2.2.2.2.2.2.2.1, (o9 _ (by omega)).trans hR.2.2.2.2.2.2.2.2.2.2.2.2.2.1, (o9 _ (by omega)).trans hR.2.2.2.2.2.2.2.2.2.2.2.2.2.2⟩
              have hO : ∀ q, (q < m ∨ m + 16 ≤ q) → h7 q = h q := fun q hq => (o9 q (by omega)).trans (hO q hq)
              refine g_goto C dX12_drawDays_100 (tgt := 0) (by decide) ?_
              have hdw : dwN (gA σ 2) (dN1 da1) (drN (lcgN sd1)) = 2 := dw2 (Nat.not_lt.mpr c71) (Nat.not_lt.mpr c91)
              refine q_lsub [3] (L' := [(0, .ref (m))]) rfl ?_
              exact ih0 (da1 + 1) (lcgN sd1) (va_up dN1 (da1 + 1) (dwN (gA σ 2) (dN1 da1) (drN (lcgN sd1)))) (h7) (upd (g22) ((da1 + 1)) (2)) (by omega) (by omega) (by omega) (hM) (hR) (hO) (exS_st hex) (fun j g1 g2 => by
                  by_cases e : j = da1 + 1
                  · subst e; simp only [upd, va_up, if_true]; rw [hdw]; exact ⟨rfl, by decide⟩
                  · simp only [upd, va_up, if_neg e]; exact hdr j g1 (by omega)) (by simp only [va_up]; rw [if_neg (by omega)]; exact hd0) (lcgN_lt _)
            · intro c91
              replace c91 := (not_congr (nI_leI (a := (gA σ 2 ((3 * dN1 da1)) + gA σ 2 (((3 * dN1 da1) + 1)))) (b := drN (lcgN sd1)) (by omega) (by omega))).mp c91
              refine g_iconst C (v := 1) dX12_drawDays_94 (by decide) rfl ?_
              refine g_goto C dX12_drawDays_95 (tgt := 99) (by decide) ?_
              refine g_iast' C (hR.2.2.2.2.2.2.2.2.2.2.1) (j := (da1 + 1)) rfl (by omega) (by decide) dX12_drawDays_99 (pc' := 100) rfl (fun h10 e11 o12 => ?_)
              have hM : MdO h10 m (σ) (lN (lcgN sd1)) (s19) (s20) (nI ((da1 + 1))) (s24) (s35) := (o12 _ (by omega)).trans hM
              have hR : MdR D h10 m (σ) (f21) (upd (g22) ((da1 + 1)) (1)) := ⟨(o12 _ (by omega)).trans hR.1, (o12 _ (by omega)).trans hR.2.1, (o12 _ (by omega)).trans hR.2.2.1, (o12 _ (by omega)).trans hR.2.2.2.1, (o12 _ (by omega)).trans hR.2.2.2.2.1, (o12 _ (by omega)).trans hR.2.2.2.2.2.1, (o12 _ (by omega)).trans hR.2.2.2.2.2.2.1, (o12 _ (by omega)).trans hR.2.2.2.2.2.2.2.1, (o12 _ (by omega)).trans hR.2.2.2.2.2.2.2.2.1, (o12 _ (by omega)).trans hR.2.2.2.2.2.2.2.2.2.1, e11, (o12 _ (by omega)).trans hR.2.2.2.2.2.2.2.2.2.2.2.1, (o12 _ (by omega)).trans hR.2.2.2.2.2.2.2.2.2.2.2.2.1, (o12 _ (by omega)).trans hR.2.2.2.2.2.2.2.2.2.2.2.2.2.1, (o12 _ (by omega)).trans hR.2.2.2.2.2.2.2.2.2.2.2.2.2.2⟩
              have hO : ∀ q, (q < m ∨ m + 16 ≤ q) → h10 q = h q := fun q hq => (o12 q (by omega)).trans (hO q hq)
              refine g_goto C dX12_drawDays_100 (tgt := 0) (by decide) ?_
              have hdw : dwN (gA σ 2) (dN1 da1) (drN (lcgN sd1)) = 1 := dw1 (Nat.not_lt.mpr c71) (Nat.not_le.mp c91)
              refine q_lsub [3] (L' := [(0, .ref (m))]) rfl ?_
              exact ih0 (da1 + 1) (lcgN sd1) (va_up dN1 (da1 + 1) (dwN (gA σ 2) (dN1 da1) (drN (lcgN sd1)))) (h10) (upd (g22) ((da1 + 1)) (1)) (by omega) (by omega) (by omega) (hM) (hR) (hO) (exS_st hex) (fun j g1 g2 => by
                  by_cases e : j = da1 + 1
                  · subst e; simp only [upd, va_up, if_true]; rw [hdw]; exact ⟨rfl, by decide⟩
                  · simp only [upd, va_up, if_neg e]; exact hdr j g1 (by omega)) (by simp only [va_up]; rw [if_neg (by omega)]; exact hd0) (lcgN_lt _)
          · intro c71
            replace c71 := (not_congr (nI_leI (a := gA σ 2 ((3 * dN1 da1))) (b := drN (lcgN sd1)) (by omega) (by omega))).mp c71
            refine g_iconst C (v := 0) dX12_drawDays_74 (by decide) rfl ?_
            refine g_goto C dX12_drawDays_75 (tgt := 99) (by decide) ?_
            refine g_iast' C (hR.2.2.2.2.2.2.2.2.2.2.1) (j := (da1 + 1)) rfl (by omega) (by decide) dX12_drawDays_99 (pc' := 100) rfl (fun h13 e14 o15 => ?_)
            have hM : MdO h13 m (σ) (lN (lcgN sd1)) (s19) (s20) (nI ((da1 + 1))) (s24) (s35) := (o15 _ (by omega)).trans hM
            have hR : MdR D h13 m (σ) (f21) (upd (g22) ((da1 + 1)) (0)) := ⟨(o15 _ (by omega)).trans hR.1, (o15 _ (by omega)).trans hR.2.1, (o15 _ (by omega)).trans hR.2.2.1, (o15 _ (by omega)).trans hR.2.2.2.1, (o15 _ (by omega)).trans hR.2.2.2.2.1, (o15 _ (by omega)).trans hR.2.2.2.2.2.1, (o15 _ (by omega)).trans hR.2.2.2.2.2.2.1, (o15 _ (by omega)).trans hR.2.2.2.2.2.2.2.1, (o15 _ (by omega)).trans hR.2.2.2.2.2.2.2.2.1, (o15 _ (by omega)).trans hR.2.2.2.2.2.2.2.2.2.1, e14, (o15 _ (by omega)).trans hR.2.2.2.2.2.2.2.2.2.2.2.1, (o15 _ (by omega)).trans hR.2.2.2.2.2.2.2.2.2.2.2.2.1, (o15 _ (by omega)).trans hR.2.2.2.2.2.2.2.2.2.2.2.2.2.1, (o15 _ (by omega)).trans hR.2.2.2.2.2.2.2.2.2.2.2.2.2.2⟩
            have hO : ∀ q, (q < m ∨ m + 16 ≤ q) → h13 q = h q := fun q hq => (o15 q (by omega)).trans (hO q hq)
            refine g_goto C dX12_drawDays_100 (tgt := 0) (by decide) ?_
            have hdw : dwN (gA σ 2) (dN1 da1) (drN (lcgN sd1)) = 0 := dw0 (Nat.not_le.mp c71)
            refine q_lsub [3] (L' := [(0, .ref (m))]) rfl ?_
            exact ih0 (da1 + 1) (lcgN sd1) (va_up dN1 (da1 + 1) (dwN (gA σ 2) (dN1 da1) (drN (lcgN sd1)))) (h13) (upd (g22) ((da1 + 1)) (0)) (by omega) (by omega) (by omega) (hM) (hR) (hO) (exS_st hex) (fun j g1 g2 => by
                by_cases e : j = da1 + 1
                · subst e; simp only [upd, va_up, if_true]; rw [hdw]; exact ⟨rfl, by decide⟩
                · simp only [upd, va_up, if_neg e]; exact hdr j g1 (by omega)) (by simp only [va_up]; rw [if_neg (by omega)]; exact hd0) (lcgN_lt _)
        · intro c15
          replace c15 := (nI_eq (a := da1) (b := 0) (by omega) (by omega)).mp c15
          refine g_aload_n C 0 dX12_drawDays_18 rfl rfl rfl ?_
          refine gf_12_92 C (hM) (v := .int (nI (gN σ 6))) rfl dX12_drawDays_19 rfl ?_
          refine g_goto C dX12_drawDays_22 (tgt := 34) (by decide) ?_
          have hdv : nI (gN σ 6) = nI (dN1 da1) := by rw [c15, hd0]
          have hv3 : dN1 da1 < 3 := by rw [c15, hd0]; exact h6
          refine g_topi (y := nI (dN1 da1)) (hdv) ?_
          refine g_istore_n C ([(1, .int (nI (dN1 da1))), (0, .ref (m))]) dX12_drawDays_34 rfl (by decide) rfl rfl ?_
          refine g_aload_n C 1 dX12_drawDays_35 rfl rfl rfl ?_
          refine g_bipush C (v := 10) dX12_drawDays_36 (by decide) rfl ?_
          refine g_callVi C (As := [.int (10)]) (q := (RX12, TX12, 36)) (k_X12_draw l D b z (sd := sd1) hsd1 hM hR) hw_12_190 (hM) rfl (by decide) rfl rfl (Nat.le_of_ble_eq_true rfl) ⟨Nat.zero_le _, Nat.zero_le _⟩ dX12_drawDays_38 (pc' := 41) rfl ?_
          rintro r16 h17 ⟨er, hM, hR, fr18⟩
          subst er
          have hO : ∀ q, (q < m ∨ m + 16 ≤ q) → h17 q = h q := fun q hq => (fr18 q (by omega)).trans (hO q hq)
          have hd10 := drN_lt (lcgN sd1)
          refine g_istore_n C ([(2, .int (nI (drN (lcgN sd1)))), (1, .int (nI (dN1 da1))), (0, .ref (m))]) dX12_drawDays_41 rfl (by decide) rfl rfl ?_
          refine g_aload_n C 2 dX12_drawDays_42 rfl rfl rfl ?_
          refine gf_12_7 C (hM) (v := .ref (m + 1)) rfl dX12_drawDays_43 rfl ?_
          refine g_iconst C (v := 3) dX12_drawDays_46 (by decide) rfl ?_
          refine g_iload_n C 1 dX12_drawDays_47 rfl rfl rfl ?_
          refine g_imul C dX12_drawDays_48 rfl ?_
          refine g_topi (y := nI (3 * dN1 da1)) (pk_mul _ _) ?_
          refine g_iald' C (hR.1) (j := (3 * dN1 da1)) rfl (by omega) (by decide) dX12_drawDays_49 rfl ?_
          refine g_topi (y := nI (gA σ 2 ((3 * dN1 da1)))) (rfl) ?_
          have ht1 := hIt (3 * dN1 da1) (by omega)
          have ht2 := hIt (3 * dN1 da1 + 1) (by omega)
          refine g_istore_n C ([(3, .int (nI (gA σ 2 ((3 * dN1 da1))))), (2, .int (nI (drN (lcgN sd1)))), (1, .int (nI (dN1 da1))), (0, .ref (m))]) dX12_drawDays_50 rfl (by decide) rfl rfl ?_
          refine g_aload_n C 3 dX12_drawDays_51 rfl rfl rfl ?_
          refine g_dup C rfl dX12_drawDays_52 rfl ?_
          refine gf_12_187 C (hM) (v := .int (nI (da1))) rfl dX12_drawDays_53 rfl ?_
          refine g_iconst C (v := 1) dX12_drawDays_56 (by decide) rfl ?_
          refine g_iadd C dX12_drawDays_57 rfl ?_
          refine g_topi (y := nI (da1 + 1)) (nI_add _ _) ?_
          refine pf_12_187 C (hM) (v := .int (nI ((da1 + 1)))) rfl rfl (Nat.le_of_ble_eq_true rfl) dX12_drawDays_58 (pc' := 61) rfl (fun h19 e20 o21 => ?_)
          have hM : MdO h19 m (σ) (lN (lcgN sd1)) (s19) (s20) (nI ((da1 + 1))) (s24) (s35) := e20
          have hR : MdR D h19 m (σ) (f21) (g22) := hR.fr (fun q g1 g2 => o21 q (by omega))
          have hO : ∀ q, (q < m ∨ m + 16 ≤ q) → h19 q = h q := fun q hq => (o21 q (by omega)).trans (hO q hq)
          refine g_aload_n C 3 dX12_drawDays_61 rfl rfl rfl ?_
          refine gf_12_41 C (hM) (v := .ref (m + 11)) rfl dX12_drawDays_62 rfl ?_
          refine g_aload_n C 3 dX12_drawDays_65 rfl rfl rfl ?_
          refine gf_12_187 C (hM) (v := .int (nI ((da1 + 1)))) rfl dX12_drawDays_66 rfl ?_
          refine g_iload_n C 1 dX12_drawDays_69 rfl rfl rfl ?_
          refine g_iload_n C 0 dX12_drawDays_70 rfl rfl rfl ?_
          refine g_icmp_ge C dX12_drawDays_71 (tgt := 78) (by decide) (pc' := 74) rfl ?_ ?_
          · intro c71
            replace c71 := (nI_leI (a := gA σ 2 ((3 * dN1 da1))) (b := drN (lcgN sd1)) (by omega) (by omega)).mp c71
            refine g_iload_n C 1 dX12_drawDays_78 rfl rfl rfl ?_
            refine g_iload_n C 0 dX12_drawDays_79 rfl rfl rfl ?_
            refine g_aload_n C 3 dX12_drawDays_80 rfl rfl rfl ?_
            refine gf_12_7 C (hM) (v := .ref (m + 1)) rfl dX12_drawDays_81 rfl ?_
            refine g_iconst C (v := 3) dX12_drawDays_84 (by decide) rfl ?_
            refine g_iload_n C 2 dX12_drawDays_85 rfl rfl rfl ?_
            refine g_imul C dX12_drawDays_86 rfl ?_
            refine g_topi (y := nI (3 * dN1 da1)) (pk_mul _ _) ?_
            refine g_iconst C (v := 1) dX12_drawDays_87 (by decide) rfl ?_
            refine g_iadd C dX12_drawDays_88 rfl ?_
            refine g_topi (y := nI ((3 * dN1 da1) + 1)) (nI_add _ _) ?_
            refine g_iald' C (hR.1) (j := ((3 * dN1 da1) + 1)) rfl (by omega) (by decide) dX12_drawDays_89 rfl ?_
            refine g_topi (y := nI (gA σ 2 (((3 * dN1 da1) + 1)))) (rfl) ?_
            refine g_iadd C dX12_drawDays_90 rfl ?_
            refine g_topi (y := nI (gA σ 2 ((3 * dN1 da1)) + gA σ 2 (((3 * dN1 da1) + 1)))) (nI_add _ _) ?_
            refine g_icmp_ge C dX12_drawDays_91 (tgt := 98) (by decide) (pc' := 94) rfl ?_ ?_
            · intro c91
              replace c91 := (nI_leI (a := (gA σ 2 ((3 * dN1 da1)) + gA σ 2 (((3 * dN1 da1) + 1)))) (b := drN (lcgN sd1)) (by omega) (by omega)).mp c91
              refine g_iconst C (v := 2) dX12_drawDays_98 (by decide) rfl ?_
              refine g_iast' C (hR.2.2.2.2.2.2.2.2.2.2.1) (j := (da1 + 1)) rfl (by omega) (by decide) dX12_drawDays_99 (pc' := 100) rfl (fun h22 e23 o24 => ?_)
              have hM : MdO h22 m (σ) (lN (lcgN sd1)) (s19) (s20) (nI ((da1 + 1))) (s24) (s35) := (o24 _ (by omega)).trans hM
              have hR : MdR D h22 m (σ) (f21) (upd (g22) ((da1 + 1)) (2)) := ⟨(o24 _ (by omega)).trans hR.1, (o24 _ (by omega)).trans hR.2.1, (o24 _ (by omega)).trans hR.2.2.1, (o24 _ (by omega)).trans hR.2.2.2.1, (o24 _ (by omega)).trans hR.2.2.2.2.1, (o24 _ (by omega)).trans hR.2.2.2.2.2.1, (o24 _ (by omega)).trans hR.2.2.2.2.2.2.1, (o24 _ (by omega)).trans hR.2.2.2.2.2.2.2.1, (o24 _ (by omega)).trans hR.2.2.2.2.2.2.2.2.1, (o24 _ (by omega)).trans hR.2.2.2.2.2.2.2.2.2.1, e23, (o24 _ (by omega)).trans hR.2.2.2.2.2.2.2.2.2.2.2.1, (o24 _ (by omega)).trans hR.2.2.2.2.2.2.2.2.2.2.2.2.1, (o24 _ (by omega)).trans hR.2.2.2.2.2.2.2.2.2.2.2.2.2.1, (o24 _ (by omega)).trans hR.2.2.2.2.2.2.2.2.2.2.2.2.2.2⟩
              have hO : ∀ q, (q < m ∨ m + 16 ≤ q) → h22 q = h q := fun q hq => (o24 q (by omega)).trans (hO q hq)
              refine g_goto C dX12_drawDays_100 (tgt := 0) (by decide) ?_
              have hdw : dwN (gA σ 2) (dN1 da1) (drN (lcgN sd1)) = 2 := dw2 (Nat.not_lt.mpr c71) (Nat.not_lt.mpr c91)
              refine q_lsub [3] (L' := [(0, .ref (m))]) rfl ?_
              exact ih0 (da1 + 1) (lcgN sd1) (va_up dN1 (da1 + 1) (dwN (gA σ 2) (dN1 da1) (drN (lcgN sd1)))) (h22) (upd (g22) ((da1 + 1)) (2)) (by omega) (by omega) (by omega) (hM) (hR) (hO) (exS_st hex) (fun j g1 g2 => by
                  by_cases e : j = da1 + 1
                  · subst e; simp only [upd, va_up, if_true]; rw [hdw]; exact ⟨rfl, by decide⟩
                  · simp only [upd, va_up, if_neg e]; exact hdr j g1 (by omega)) (by simp only [va_up]; rw [if_neg (by omega)]; exact hd0) (lcgN_lt _)
            · intro c91
              replace c91 := (not_congr (nI_leI (a := (gA σ 2 ((3 * dN1 da1)) + gA σ 2 (((3 * dN1 da1) + 1)))) (b := drN (lcgN sd1)) (by omega) (by omega))).mp c91
              refine g_iconst C (v := 1) dX12_drawDays_94 (by decide) rfl ?_
              refine g_goto C dX12_drawDays_95 (tgt := 99) (by decide) ?_
              refine g_iast' C (hR.2.2.2.2.2.2.2.2.2.2.1) (j := (da1 + 1)) rfl (by omega) (by decide) dX12_drawDays_99 (pc' := 100) rfl (fun h25 e26 o27 => ?_)
              have hM : MdO h25 m (σ) (lN (lcgN sd1)) (s19) (s20) (nI ((da1 + 1))) (s24) (s35) := (o27 _ (by omega)).trans hM
              have hR : MdR D h25 m (σ) (f21) (upd (g22) ((da1 + 1)) (1)) := ⟨(o27 _ (by omega)).trans hR.1, (o27 _ (by omega)).trans hR.2.1, (o27 _ (by omega)).trans hR.2.2.1, (o27 _ (by omega)).trans hR.2.2.2.1, (o27 _ (by omega)).trans hR.2.2.2.2.1, (o27 _ (by omega)).trans hR.2.2.2.2.2.1, (o27 _ (by omega)).trans hR.2.2.2.2.2.2.1, (o27 _ (by omega)).trans hR.2.2.2.2.2.2.2.1, (o27 _ (by omega)).trans hR.2.2.2.2.2.2.2.2.1, (o27 _ (by omega)).trans hR.2.2.2.2.2.2.2.2.2.1, e26, (o27 _ (by omega)).trans hR.2.2.2.2.2.2.2.2.2.2.2.1, (o27 _ (by omega)).trans hR.2.2.2.2.2.2.2.2.2.2.2.2.1, (o27 _ (by omega)).trans hR.2.2.2.2.2.2.2.2.2.2.2.2.2.1, (o27 _ (by omega)).trans hR.2.2.2.2.2.2.2.2.2.2.2.2.2.2⟩
              have hO : ∀ q, (q < m ∨ m + 16 ≤ q) → h25 q = h q := fun q hq => (o27 q (by omega)).trans (hO q hq)
              refine g_goto C dX12_drawDays_100 (tgt := 0) (by decide) ?_
              have hdw : dwN (gA σ 2) (dN1 da1) (drN (lcgN sd1)) = 1 := dw1 (Nat.not_lt.mpr c71) (Nat.not_le.mp c91)
              refine q_lsub [3] (L' := [(0, .ref (m))]) rfl ?_
              exact ih0 (da1 + 1) (lcgN sd1) (va_up dN1 (da1 + 1) (dwN (gA σ 2) (dN1 da1) (drN (lcgN sd1)))) (h25) (upd (g22) ((da1 + 1)) (1)) (by omega) (by omega) (by omega) (hM) (hR) (hO) (exS_st hex) (fun j g1 g2 => by
                  by_cases e : j = da1 + 1
                  · subst e; simp only [upd, va_up, if_true]; rw [hdw]; exact ⟨rfl, by decide⟩
                  · simp only [upd, va_up, if_neg e]; exact hdr j g1 (by omega)) (by simp only [va_up]; rw [if_neg (by omega)]; exact hd0) (lcgN_lt _)
          · intro c71
            replace c71 := (not_congr (nI_leI (a := gA σ 2 ((3 * dN1 da1))) (b := drN (lcgN sd1)) (by omega) (by omega))).mp c71
            refine g_iconst C (v := 0) dX12_drawDays_74 (by decide) rfl ?_
            refine g_goto C dX12_drawDays_75 (tgt := 99) (by decide) ?_
            refine g_iast' C (hR.2.2.2.2.2.2.2.2.2.2.1) (j := (da1 + 1)) rfl (by omega) (by decide) dX12_drawDays_99 (pc' := 100) rfl (fun h28 e29 o30 => ?_)
            have hM : MdO h28 m (σ) (lN (lcgN sd1)) (s19) (s20) (nI ((da1 + 1))) (s24) (s35) := (o30 _ (by omega)).trans hM
            have hR : MdR D h28 m (σ) (f21) (upd (g22) ((da1 + 1)) (0)) := ⟨(o30 _ (by omega)).trans hR.1, (o30 _ (by omega)).trans hR.2.1, (o30 _ (by omega)).trans hR.2.2.1, (o30 _ (by omega)).trans hR.2.2.2.1, (o30 _ (by omega)).trans hR.2.2.2.2.1, (o30 _ (by omega)).trans hR.2.2.2.2.2.1, (o30 _ (by omega)).trans hR.2.2.2.2.2.2.1, (o30 _ (by omega)).trans hR.2.2.2.2.2.2.2.1, (o30 _ (by omega)).trans hR.2.2.2.2.2.2.2.2.1, (o30 _ (by omega)).trans hR.2.2.2.2.2.2.2.2.2.1, e29, (o30 _ (by omega)).trans hR.2.2.2.2.2.2.2.2.2.2.2.1, (o30 _ (by omega)).trans hR.2.2.2.2.2.2.2.2.2.2.2.2.1, (o30 _ (by omega)).trans hR.2.2.2.2.2.2.2.2.2.2.2.2.2.1, (o30 _ (by omega)).trans hR.2.2.2.2.2.2.2.2.2.2.2.2.2.2⟩
            have hO : ∀ q, (q < m ∨ m + 16 ≤ q) → h28 q = h q := fun q hq => (o30 q (by omega)).trans (hO q hq)
            refine g_goto C dX12_drawDays_100 (tgt := 0) (by decide) ?_
            have hdw : dwN (gA σ 2) (dN1 da1) (drN (lcgN sd1)) = 0 := dw0 (Nat.not_le.mp c71)
            refine q_lsub [3] (L' := [(0, .ref (m))]) rfl ?_
            exact ih0 (da1 + 1) (lcgN sd1) (va_up dN1 (da1 + 1) (dwN (gA σ 2) (dN1 da1) (drN (lcgN sd1)))) (h28) (upd (g22) ((da1 + 1)) (0)) (by omega) (by omega) (by omega) (hM) (hR) (hO) (exS_st hex) (fun j g1 g2 => by
                by_cases e : j = da1 + 1
                · subst e; simp only [upd, va_up, if_true]; rw [hdw]; exact ⟨rfl, by decide⟩
                · simp only [upd, va_up, if_neg e]; exact hdr j g1 (by omega)) (by simp only [va_up]; rw [if_neg (by omega)]; exact hd0) (lcgN_lt _)
  exact loop0 _ (da) (sd) (dN) (h) (f22) (Nat.lt_succ_self _) (Nat.le_refl _) (hda) (hM) (hR) (hO) (exS_id _ _ (Nat.le_refl _)) (hdr) (hd0) (hsd)

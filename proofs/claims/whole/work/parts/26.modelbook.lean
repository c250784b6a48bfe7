/-! the reference model: the book, counts, lowest terms -/
theorem wrongC_stab {ws rs : Nat → Int32} {n y k : Nat} (h : ¬ k + y < n) : ∀ d, wrongC ws rs n y (k + d) = wrongC ws rs n y k
  | 0 => rfl
  | d + 1 => by
    have e : wrongC ws rs n y (k + (d + 1)) = wrongC ws rs n y (k + d) + (if ((k + d) + y < n ∧ ¬ rs (k + d) = -1) ∧ ¬ rs (k + d) = ws ((k + d) + y) then 1 else 0) := rfl
    rw [e, if_neg (fun g => h (by have := g.1.1; omega)), wrongC_stab h d]
    rfl
theorem seenC_stab {rs : Nat → Int32} {n y k : Nat} (h : ¬ k + y < n) : ∀ d, seenC rs n y (k + d) = seenC rs n y k
  | 0 => rfl
  | d + 1 => by
    have e : seenC rs n y (k + (d + 1)) = seenC rs n y (k + d) + (if (k + d) + y < n ∧ ¬ rs (k + d) = -1 then 1 else 0) := rfl
    rw [e, if_neg (fun g => h (by have := g.1; omega)), seenC_stab h d]
    rfl
theorem wr_end {σ : sg} {y k : Nat} (hk : k ≤ 12) (h : ¬ k + y < gN σ 13) : wrongC (gB σ 14) (gB σ 15) (gN σ 13) y k = wrS σ y := by
  have := wrongC_stab (ws := gB σ 14) (rs := gB σ 15) h (12 - k)
  rw [show k + (12 - k) = 12 by omega] at this
  exact this.symm
theorem se_end {σ : sg} {y k : Nat} (hk : k ≤ 12) (h : ¬ k + y < gN σ 13) : seenC (gB σ 15) (gN σ 13) y k = seS σ y := by
  have := seenC_stab (rs := gB σ 15) h (12 - k)
  rw [show k + (12 - k) = 12 by omega] at this
  exact this.symm
set_option maxHeartbeats 4000000 in
set_option maxRecDepth 100000 in
theorem kw_X12_lookedAt (l : Launch) (D : va_G) (b z : Nat) {h : qH} {m : Nat} {σ : sg} {s18 s35 : Int64} {s19 s20 s23 s24 : Int32} {f21 f22 : Nat → Int32} (hM : MdO h m σ s18 s19 s20 s23 s24 s35) (hR : MdR D h m σ f21 f22) (h13 : gN σ 13 ≤ 12) {y : Nat} (hy : y ≤ 4) : qMi l D b yX12_lookedAt cX12_lookedAt 6 .int 0 0 [.ref (m), .int (nI (y)), .int (1)] h z (fun r0 h' => r0 = nI (wrS σ y) ∧ h' = h) := by
  refine q_i (L := [(0, .ref (m)), (1, .int (nI (y))), (2, .int (1))]) (own := RX12) (by decide) rfl (Nat.le_of_ble_eq_true rfl) rfl ?_
  intro X C ret
  refine g_iconst C (v := 0) dX12_lookedAt_0 (by decide) rfl ?_
  refine g_istore_n C ([(3, .int (0)), (0, .ref (m)), (1, .int (nI (y))), (2, .int (1))]) dX12_lookedAt_1 rfl (by decide) rfl rfl ?_
  refine g_iconst C (v := 0) dX12_lookedAt_2 (by decide) rfl ?_
  refine g_istore C ([(4, .int (0)), (3, .int (0)), (0, .ref (m)), (1, .int (nI (y))), (2, .int (1))]) dX12_lookedAt_3 (by decide) rfl rfl ?_
  have loop5 : ∀ (N : Nat) (k : Nat) (c : Nat), 13 - k < N → (k ≤ gN σ 13) → (c = wrongC (gB σ 14) (gB σ 15) (gN σ 13) y k) → qG X 0 0 z h 5 [(4, .int (nI (k))), (3, .int (nI (c))), (0, .ref (m)), (1, .int (nI (y))), (2, .int (1))] [] := by
    intro N
    induction N with
    | zero => intro k c hm; exact absurd hm (Nat.not_lt_zero _)
    | succ N ih5 =>
      intro k c hm hk hc
      refine g_iload C 0 dX12_lookedAt_5 rfl rfl ?_
      refine g_iload_n C 3 dX12_lookedAt_7 rfl rfl rfl ?_
      refine g_iadd C dX12_lookedAt_8 rfl ?_
      refine g_topi (y := nI (k + y)) (nI_add _ _) ?_
      refine g_aload_n C 2 dX12_lookedAt_9 rfl rfl rfl ?_
      refine gf_12_98 C (hM) (v := .int (nI (gN (σ) 13))) rfl dX12_lookedAt_10 rfl ?_
      refine g_icmp_ge C dX12_lookedAt_13 (tgt := 76) (by decide) (pc' := 16) rfl ?_ ?_
      · intro c13
        replace c13 := (nI_leI (a := gN (σ) 13) (b := (k + y)) (by omega) (by omega)).mp c13
        refine g_iload_n C 1 dX12_lookedAt_76 rfl rfl rfl ?_
        exact ret _ _ _ _ dX12_lookedAt_77 rfl (⟨by rw [hc, wr_end (by omega) (by omega)], rfl⟩)
      · intro c13
        replace c13 := (not_congr (nI_leI (a := gN (σ) 13) (b := (k + y)) (by omega) (by omega))).mp c13
        refine g_aload_n C 2 dX12_lookedAt_16 rfl rfl rfl ?_
        refine gf_12_31 C (hM) (v := .ref (m + 8)) rfl dX12_lookedAt_17 rfl ?_
        refine g_iload C 0 dX12_lookedAt_20 rfl rfl ?_
        refine g_iald' C (hR.2.2.2.2.2.2.2.1) (j := k) rfl (by omega) (by decide) dX12_lookedAt_22 rfl ?_
        refine g_iconst C (v := -1) dX12_lookedAt_23 (by decide) rfl ?_
        refine g_icmp_eq C dX12_lookedAt_24 (tgt := 54) (by decide) (pc' := 27) rfl ?_ ?_
        · intro c24
          refine g_iconst C (v := 0) dX12_lookedAt_54 (by decide) rfl ?_
          refine g_istore C ([(5, .int (0)), (4, .int (nI (k))), (3, .int (nI (c))), (0, .ref (m)), (1, .int (nI (y))), (2, .int (1))]) dX12_lookedAt_55 (by decide) rfl rfl ?_
          refine g_iload_n C 2 dX12_lookedAt_57 rfl rfl rfl ?_
          refine g_iload C 0 dX12_lookedAt_58 rfl rfl ?_
          refine g_if_eq C dX12_lookedAt_60 (tgt := 67) (by decide) (pc' := 63) rfl (fun _ => ?_) (fun c60 => absurd (by decide) c60)
          refine g_iconst C (v := 0) dX12_lookedAt_67 (by decide) rfl ?_
          refine g_iadd C dX12_lookedAt_68 rfl ?_
          refine g_topi (y := nI (c + 0)) (nI_add c 0) ?_
          refine g_istore_n C ([(3, .int (nI (c + 0))), (5, .int (0)), (4, .int (nI (k))), (0, .ref (m)), (1, .int (nI (y))), (2, .int (1))]) dX12_lookedAt_69 rfl (by decide) rfl rfl ?_
          refine g_iinc C (v := nI (k + 1)) 2 ([(4, .int (nI (k + 1))), (3, .int (nI (c + 0))), (5, .int (0)), (0, .ref (m)), (1, .int (nI (y))), (2, .int (1))]) dX12_lookedAt_70 rfl (nI_1 _) (by decide) rfl rfl ?_
          refine g_goto C dX12_lookedAt_73 (tgt := 5) (by decide) ?_
          refine q_lsub [0, 1, 3, 4, 5] (L' := [(4, .int (nI (k + 1))), (3, .int (nI (c + 0))), (0, .ref (m)), (1, .int (nI (y))), (2, .int (1))]) rfl ?_
          exact ih5 (k + 1) (c + 0) (by omega) (by omega) (by simp only [wrongC]; rw [hc, if_neg (fun g => g.1.2 c24)])
        · intro c24
          refine g_iload_n C 4 dX12_lookedAt_27 rfl rfl rfl ?_
          refine g_if_eq C dX12_lookedAt_28 (tgt := 50) (by decide) (pc' := 31) rfl (fun c28 => absurd c28 (by decide)) (fun _ => ?_)
          refine g_aload_n C 2 dX12_lookedAt_31 rfl rfl rfl ?_
          refine gf_12_31 C (hM) (v := .ref (m + 8)) rfl dX12_lookedAt_32 rfl ?_
          refine g_iload C 0 dX12_lookedAt_35 rfl rfl ?_
          refine g_iald' C (hR.2.2.2.2.2.2.2.1) (j := k) rfl (by omega) (by decide) dX12_lookedAt_37 rfl ?_
          refine g_aload_n C 2 dX12_lookedAt_38 rfl rfl rfl ?_
          refine gf_12_28 C (hM) (v := .ref (m + 7)) rfl dX12_lookedAt_39 rfl ?_
          refine g_iload C 0 dX12_lookedAt_42 rfl rfl ?_
          refine g_iload_n C 3 dX12_lookedAt_44 rfl rfl rfl ?_
          refine g_iadd C dX12_lookedAt_45 rfl ?_
          refine g_topi (y := nI (k + y)) (nI_add _ _) ?_
          refine g_iald' C (hR.2.2.2.2.2.2.1) (j := (k + y)) rfl (by omega) (by decide) dX12_lookedAt_46 rfl ?_
          refine g_icmp_eq C dX12_lookedAt_47 (tgt := 54) (by decide) (pc' := 50) rfl ?_ ?_
          · intro c47
            refine g_iconst C (v := 0) dX12_lookedAt_54 (by decide) rfl ?_
            refine g_istore C ([(5, .int (0)), (4, .int (nI (k))), (3, .int (nI (c))), (0, .ref (m)), (1, .int (nI (y))), (2, .int (1))]) dX12_lookedAt_55 (by decide) rfl rfl ?_
            refine g_iload_n C 2 dX12_lookedAt_57 rfl rfl rfl ?_
            refine g_iload C 0 dX12_lookedAt_58 rfl rfl ?_
            refine g_if_eq C dX12_lookedAt_60 (tgt := 67) (by decide) (pc' := 63) rfl (fun _ => ?_) (fun c60 => absurd (by decide) c60)
            refine g_iconst C (v := 0) dX12_lookedAt_67 (by decide) rfl ?_
            refine g_iadd C dX12_lookedAt_68 rfl ?_
            refine g_topi (y := nI (c + 0)) (nI_add c 0) ?_
            refine g_istore_n C ([(3, .int (nI (c + 0))), (5, .int (0)), (4, .int (nI (k))), (0, .ref (m)), (1, .int (nI (y))), (2, .int (1))]) dX12_lookedAt_69 rfl (by decide) rfl rfl ?_
            refine g_iinc C (v := nI (k + 1)) 2 ([(4, .int (nI (k + 1))), (3, .int (nI (c + 0))), (5, .int (0)), (0, .ref (m)), (1, .int (nI (y))), (2, .int (1))]) dX12_lookedAt_70 rfl (nI_1 _) (by decide) rfl rfl ?_
            refine g_goto C dX12_lookedAt_73 (tgt := 5) (by decide) ?_
            refine q_lsub [0, 1, 3, 4, 5] (L' := [(4, .int (nI (k + 1))), (3, .int (nI (c + 0))), (0, .ref (m)), (1, .int (nI (y))), (2, .int (1))]) rfl ?_
            exact ih5 (k + 1) (c + 0) (by omega) (by omega) (by simp only [wrongC]; rw [hc, if_neg (fun g => g.2 c47)])
          · intro c47
            refine g_iconst C (v := 1) dX12_lookedAt_50 (by decide) rfl ?_
            refine g_goto C dX12_lookedAt_51 (tgt := 55) (by decide) ?_
            refine g_istore C ([(5, .int (1)), (4, .int (nI (k))), (3, .int (nI (c))), (0, .ref (m)), (1, .int (nI (y))), (2, .int (1))]) dX12_lookedAt_55 (by decide) rfl rfl ?_
            refine g_iload_n C 2 dX12_lookedAt_57 rfl rfl rfl ?_
            refine g_iload C 0 dX12_lookedAt_58 rfl rfl ?_
            refine g_if_eq C dX12_lookedAt_60 (tgt := 67) (by decide) (pc' := 63) rfl (fun c60 => absurd c60 (by decide)) (fun _ => ?_)
            refine g_iconst C (v := 1) dX12_lookedAt_63 (by decide) rfl ?_
            refine g_goto C dX12_lookedAt_64 (tgt := 68) (by decide) ?_
            refine g_iadd C dX12_lookedAt_68 rfl ?_
            refine g_topi (y := nI (c + 1)) (nI_1 c) ?_
            refine g_istore_n C ([(3, .int (nI (c + 1))), (5, .int (1)), (4, .int (nI (k))), (0, .ref (m)), (1, .int (nI (y))), (2, .int (1))]) dX12_lookedAt_69 rfl (by decide) rfl rfl ?_
            refine g_iinc C (v := nI (k + 1)) 2 ([(4, .int (nI (k + 1))), (3, .int (nI (c + 1))), (5, .int (1)), (0, .ref (m)), (1, .int (nI (y))), (2, .int (1))]) dX12_lookedAt_70 rfl (nI_1 _) (by decide) rfl rfl ?_
            refine g_goto C dX12_lookedAt_73 (tgt := 5) (by decide) ?_
            refine q_lsub [0, 1, 3, 4, 5] (L' := [(4, .int (nI (k + 1))), (3, .int (nI (c + 1))), (0, .ref (m)), (1, .int (nI (y))), (2, .int (1))]) rfl ?_
            exact ih5 (k + 1) (c + 1) (by omega) (by omega) (by simp only [wrongC]; rw [hc, if_pos ⟨⟨by omega, c24⟩, c47⟩])
  exact loop5 _ (0) (0) (Nat.lt_succ_self _) (Nat.zero_le _) (rfl)
set_option maxHeartbeats 4000000 in
set_option maxRecDepth 100000 in
theorem ks_X12_lookedAt (l : Launch) (D : va_G) (b z : Nat) {h : qH} {m : Nat} {σ : sg} {s18 s35 : Int64} {s19 s20 s23 s24 : Int32} {f21 f22 : Nat → Int32} (hM : MdO h m σ s18 s19 s20 s23 s24 s35) (hR : MdR D h m σ f21 f22) (h13 : gN σ 13 ≤ 12) {y : Nat} (hy : y ≤ 4) : qMi l D b yX12_lookedAt cX12_lookedAt 6 .int 0 0 [.ref (m), .int (nI (y)), .int (0)] h z (fun r0 h' => r0 = nI (seS σ y) ∧ h' = h) := by
  refine q_i (L := [(0, .ref (m)), (1, .int (nI (y))), (2, .int (0))]) (own := RX12) (by decide) rfl (Nat.le_of_ble_eq_true rfl) rfl ?_
  intro X C ret
  refine g_iconst C (v := 0) dX12_lookedAt_0 (by decide) rfl ?_
  refine g_istore_n C ([(3, .int (0)), (0, .ref (m)), (1, .int (nI (y))), (2, .int (0))]) dX12_lookedAt_1 rfl (by decide) rfl rfl ?_
  refine g_iconst C (v := 0) dX12_lookedAt_2 (by decide) rfl ?_
  refine g_istore C ([(4, .int (0)), (3, .int (0)), (0, .ref (m)), (1, .int (nI (y))), (2, .int (0))]) dX12_lookedAt_3 (by decide) rfl rfl ?_
  have loop5 : ∀ (N : Nat) (k : Nat) (c : Nat), 13 - k < N → (k ≤ gN σ 13) → (c = seenC (gB σ 15) (gN σ 13) y k) → qG X 0 0 z h 5 [(4, .int (nI (k))), (3, .int (nI (c))), (0, .ref (m)), (1, .int (nI (y))), (2, .int (0))] [] := by
    intro N
    induction N with
    | zero => intro k c hm; exact absurd hm (Nat.not_lt_zero _)
    | succ N ih5 =>
      intro k c hm hk hc
      refine g_iload C 0 dX12_lookedAt_5 rfl rfl ?_
      refine g_iload_n C 3 dX12_lookedAt_7 rfl rfl rfl ?_
      refine g_iadd C dX12_lookedAt_8 rfl ?_
      refine g_topi (y := nI (k + y)) (nI_add _ _) ?_
      refine g_aload_n C 2 dX12_lookedAt_9 rfl rfl rfl ?_
      refine gf_12_98 C (hM) (v := .int (nI (gN (σ) 13))) rfl dX12_lookedAt_10 rfl ?_
      refine g_icmp_ge C dX12_lookedAt_13 (tgt := 76) (by decide) (pc' := 16) rfl ?_ ?_
      · intro c13
        replace c13 := (nI_leI (a := gN (σ) 13) (b := (k + y)) (by omega) (by omega)).mp c13
        refine g_iload_n C 1 dX12_lookedAt_76 rfl rfl rfl ?_
        exact ret _ _ _ _ dX12_lookedAt_77 rfl (⟨by rw [hc, se_end (by omega) (by omega)], rfl⟩)
      · intro c13
        replace c13 := (not_congr (nI_leI (a := gN (σ) 13) (b := (k + y)) (by omega) (by omega))).mp c13
        refine g_aload_n C 2 dX12_lookedAt_16 rfl rfl rfl ?_
        refine gf_12_31 C (hM) (v := .ref (m + 8)) rfl dX12_lookedAt_17 rfl ?_
        refine g_iload C 0 dX12_lookedAt_20 rfl rfl ?_
        refine g_iald' C (hR.2.2.2.2.2.2.2.1) (j := k) rfl (by omega) (by decide) dX12_lookedAt_22 rfl ?_
        refine g_iconst C (v := -1) dX12_lookedAt_23 (by decide) rfl ?_
        refine g_icmp_eq C dX12_lookedAt_24 (tgt := 54) (by decide) (pc' := 27) rfl ?_ ?_
        · intro c24
          refine g_iconst C (v := 0) dX12_lookedAt_54 (by decide) rfl ?_
          refine g_istore C ([(5, .int (0)), (4, .int (nI (k))), (3, .int (nI (c))), (0, .ref (m)), (1, .int (nI (y))), (2, .int (0))]) dX12_lookedAt_55 (by decide) rfl rfl ?_
          refine g_iload_n C 2 dX12_lookedAt_57 rfl rfl rfl ?_
          refine g_iload C 0 dX12_lookedAt_58 rfl rfl ?_
          refine g_if_eq C dX12_lookedAt_60 (tgt := 67) (by decide) (pc' := 63) rfl (fun _ => ?_) (fun c60 => absurd (by decide) c60)
          refine g_iconst C (v := 0) dX12_lookedAt_67 (by decide) rfl ?_
          refine g_iadd C dX12_lookedAt_68 rfl ?_
          refine g_topi (y := nI (c + 0)) (nI_add c 0) ?_
          refine g_istore_n C ([(3, .int (nI (c + 0))), (5, .int (0)), (4, .int (nI (k))), (0, .ref (m)), (1, .int (nI (y))), (2, .int (0))]) dX12_lookedAt_69 rfl (by decide) rfl rfl ?_
          refine g_iinc C (v := nI (k + 1)) 2 ([(4, .int (nI (k + 1))), (3, .int (nI (c + 0))), (5, .int (0)), (0, .ref (m)), (1, .int (nI (y))), (2, .int (0))]) dX12_lookedAt_70 rfl (nI_1 _) (by decide) rfl rfl ?_
          refine g_goto C dX12_lookedAt_73 (tgt := 5) (by decide) ?_
          refine q_lsub [0, 1, 3, 4, 5] (L' := [(4, .int (nI (k + 1))), (3, .int (nI (c + 0))), (0, .ref (m)), (1, .int (nI (y))), (2, .int (0))]) rfl ?_
          exact ih5 (k + 1) (c + 0) (by omega) (by omega) (by simp only [seenC]; rw [hc, if_neg (fun g => g.2 c24)])
        · intro c24
          refine g_iload_n C 4 dX12_lookedAt_27 rfl rfl rfl ?_
          refine g_if_eq C dX12_lookedAt_28 (tgt := 50) (by decide) (pc' := 31) rfl (fun _ => ?_) (fun c28 => absurd (by decide) c28)
          refine g_iconst C (v := 1) dX12_lookedAt_50 (by decide) rfl ?_
          refine g_goto C dX12_lookedAt_51 (tgt := 55) (by decide) ?_
          refine g_istore C ([(5, .int (1)), (4, .int (nI (k))), (3, .int (nI (c))), (0, .ref (m)), (1, .int (nI (y))), (2, .int (0))]) dX12_lookedAt_55 (by decide) rfl rfl ?_
          refine g_iload_n C 2 dX12_lookedAt_57 rfl rfl rfl ?_
          refine g_iload C 0 dX12_lookedAt_58 rfl rfl ?_
          refine g_if_eq C dX12_lookedAt_60 (tgt := 67) (by decide) (pc' := 63) rfl (fun c60 => absurd c60 (by decide)) (fun _ => ?_)
          refine g_iconst C (v := 1) dX12_lookedAt_63 (by decide) rfl ?_
          refine g_goto C dX12_lookedAt_64 (tgt := 68) (by decide) ?_
          refine g_iadd C dX12_lookedAt_68 rfl ?_
          refine g_topi (y := nI (c + 1)) (nI_1 c) ?_
          refine g_istore_n C ([(3, .int (nI (c + 1))), (5, .int (1)), (4, .int (nI (k))), (0, .ref (m)), (1, .int (nI (y))), (2, .int (0))]) dX12_lookedAt_69 rfl (by decide) rfl rfl ?_
          refine g_iinc C (v := nI (k + 1)) 2 ([(4, .int (nI (k + 1))), (3, .int (nI (c + 1))), (5, .int (1)), (0, .ref (m)), (1, .int (nI (y))), (2, .int (0))]) dX12_lookedAt_70 rfl (nI_1 _) (by decide) rfl rfl ?_
          refine g_goto C dX12_lookedAt_73 (tgt := 5) (by decide) ?_
          refine q_lsub [0, 1, 3, 4, 5] (L' := [(4, .int (nI (k + 1))), (3, .int (nI (c + 1))), (0, .ref (m)), (1, .int (nI (y))), (2, .int (0))]) rfl ?_
          exact ih5 (k + 1) (c + 1) (by omega) (by omega) (by simp only [seenC]; rw [hc, if_pos ⟨by omega, c24⟩])
  exact loop5 _ (0) (0) (Nat.lt_succ_self _) (Nat.zero_le _) (rfl)
set_option maxHeartbeats 4000000 in
set_option maxRecDepth 100000 in
theorem k_X12_wrong (l : Launch) (D : va_G) (b z : Nat) {h : qH} {m : Nat} {σ : sg} {s18 s35 : Int64} {s19 s20 s23 s24 : Int32} {f21 f22 : Nat → Int32} (hM : MdO h m σ s18 s19 s20 s23 s24 s35) (hR : MdR D h m σ f21 f22) (h13 : gN σ 13 ≤ 12) (y : Int32) : qMi l D b yX12_wrong cX12_wrong 2 .int 1 25 [.ref (m), .int (y)] h z (fun r0 h' => r0 = cWrong σ y ∧ h' = h) := by
  refine q_i (L := [(0, .ref (m)), (1, .int (y))]) (own := RX12) (by decide) rfl (Nat.le_of_ble_eq_true rfl) rfl ?_
  intro X C ret
  refine g_iload_n C 1 dX12_wrong_0 rfl rfl rfl ?_
  refine g_iconst C (v := 0) dX12_wrong_1 (by decide) rfl ?_
  refine g_iconst C (v := 4) dX12_wrong_2 (by decide) rfl ?_
  refine g_callSi C (As := [.int (y), .int (0), .int (4)]) (k_X12_within l D b z h (y) (0) (4)) hw_12_56 (by decide) rfl rfl (Nat.le_of_ble_eq_true rfl) ⟨Nat.zero_le _, Nat.zero_le _⟩ dX12_wrong_3 (pc' := 6) rfl ?_
  rintro r1 h9 ⟨⟨er, hp3⟩ | ⟨er, hp3⟩, e9⟩
  · subst h9; subst er
    have hp3 := (wit_in (lo := 0) (hi := 4) (x := y) (by decide) (by decide)).mp hp3
    have hp3_ := hp3
    obtain ⟨j, rfl, hp3a, hp3b⟩ := hp3_
    refine g_if_eq C dX12_wrong_6 (tgt := 18) (by decide) (pc' := 9) rfl (fun c6 => absurd c6 (by decide)) (fun _ => ?_)
    refine g_aload_n C 0 dX12_wrong_9 rfl rfl rfl ?_
    refine g_iload_n C 1 dX12_wrong_10 rfl rfl rfl ?_
    refine g_iconst C (v := 1) dX12_wrong_11 (by decide) rfl ?_
    refine g_callVi C (As := [.int (nI (j)), .int (1)]) (q := (RX12, TX12, 36)) (kw_X12_lookedAt l D b z hM hR h13 (y := j) (by omega)) hw_12_169 (hM) rfl (by decide) rfl rfl (Nat.le_of_ble_eq_true rfl) ⟨Nat.zero_le _, Nat.zero_le _⟩ dX12_wrong_12 (pc' := 15) rfl ?_
    rintro r2 h9 ⟨er, e9⟩
    subst h9; subst er
    have hle2 : wrS σ (j) ≤ 12 := by first | exact wrongC_le _ _ _ _ _ | exact seenC_le _ _ _ _
    refine g_goto C dX12_wrong_15 (tgt := 20) (by decide) ?_
    exact ret _ _ _ _ dX12_wrong_20 rfl (⟨by unfold cWrong; rw [cIf_t hp3, nIc (by omega)]; rfl, rfl⟩)
  · subst h9; subst er
    have hp3 := (not_congr (wit_in (lo := 0) (hi := 4) (x := y) (by decide) (by decide))).mp hp3
    refine g_if_eq C dX12_wrong_6 (tgt := 18) (by decide) (pc' := 9) rfl (fun _ => ?_) (fun c6 => absurd (by decide) c6)
    refine g_bipush C (v := -102) dX12_wrong_18 (by decide) rfl ?_
    exact ret _ _ _ _ dX12_wrong_20 rfl (⟨by unfold cWrong; rw [cIf_f hp3], rfl⟩)
def leN (σ : sg) : Option Nat → Nat
  | none => 13
  | some f => wrS σ f
theorem er_step (σ : sg) (k : Nat) (hW : wrS σ k ≤ 12) : erC (wrS σ) (seS σ) (k + 1) = if 0 < seS σ k ∧ wrS σ k < leN σ (erC (wrS σ) (seS σ) k) then some k else erC (wrS σ) (seS σ) k := by
  simp only [erC]
  cases erC (wrS σ) (seS σ) k with
  | none =>
    show (if 0 < seS σ k then some k else none) = if 0 < seS σ k ∧ wrS σ k < 13 then some k else none
    by_cases h : 0 < seS σ k
    · rw [if_pos h, if_pos ⟨h, by omega⟩]
    · rw [if_neg h, if_neg (fun g => h g.1)]
  | some f => rfl
theorem leN_le (σ : sg) (o : Option Nat) : leN σ o ≤ 13 := by
  cases o with
  | none => exact Nat.le_refl _
  | some f => exact Nat.le_succ_of_le (wrongC_le _ _ _ _ _)
set_option maxHeartbeats 4000000 in
set_option maxRecDepth 100000 in
theorem k_X12_earliestNow (l : Launch) (D : va_G) (b z : Nat) {h : qH} {m : Nat} {σ : sg} {s18 s35 : Int64} {s19 s20 s23 s24 : Int32} {f21 f22 : Nat → Int32} (hM : MdO h m σ s18 s19 s20 s23 s24 s35) (hR : MdR D h m σ f21 f22) (h13 : gN σ 13 ≤ 12) : qMi l D b yX12_earliestNow cX12_earliestNow 6 .int 1 25 [.ref (m)] h z (fun r0 h' => r0 = cEarliest σ ∧ h' = h) := by
  refine q_i (L := [(0, .ref (m))]) (own := RX12) (by decide) rfl (Nat.le_of_ble_eq_true rfl) rfl ?_
  intro X C ret
  refine g_iconst C (v := -1) dX12_earliestNow_0 (by decide) rfl ?_
  refine g_istore_n C ([(1, .int ((-1))), (0, .ref (m))]) dX12_earliestNow_1 rfl (by decide) rfl rfl ?_
  refine g_bipush C (v := 13) dX12_earliestNow_2 (by decide) rfl ?_
  refine g_istore_n C ([(2, .int (13)), (1, .int ((-1))), (0, .ref (m))]) dX12_earliestNow_4 rfl (by decide) rfl rfl ?_
  refine g_iconst C (v := 0) dX12_earliestNow_5 (by decide) rfl ?_
  refine g_istore_n C ([(3, .int (0)), (2, .int (13)), (1, .int ((-1))), (0, .ref (m))]) dX12_earliestNow_6 rfl (by decide) rfl rfl ?_
  have loop7 : ∀ (N : Nat) (k : Nat) (o : Option Nat), 5 - k < N → (k ≤ 5) → (o = erC (wrS σ) (seS σ) k) → qG X 0 0 z h 7 [(3, .int (nI (k))), (2, .int (nI (leN σ o))), (1, .int (optI o)), (0, .ref (m))] [] := by
    intro N
    induction N with
    | zero => intro k o hm; exact absurd hm (Nat.not_lt_zero _)
    | succ N ih7 =>
      intro k o hm hk ho
      have hlo := leN_le σ o
      refine g_iload_n C 0 dX12_earliestNow_7 rfl rfl rfl ?_
      refine g_iconst C (v := 5) dX12_earliestNow_8 (by decide) rfl ?_
      refine g_icmp_ge C dX12_earliestNow_9 (tgt := 71) (by decide) (pc' := 12) rfl ?_ ?_
      · intro c9
        replace c9 := (nI_leI (a := 5) (b := k) (by omega) (by omega)).mp c9
        refine g_iload_n C 2 dX12_earliestNow_71 rfl rfl rfl ?_
        exact ret _ _ _ _ dX12_earliestNow_72 rfl (⟨by rw [ho, show k = 5 by omega]; rfl, rfl⟩)
      · intro c9
        replace c9 := (not_congr (nI_leI (a := 5) (b := k) (by omega) (by omega))).mp c9
        refine g_aload_n C 3 dX12_earliestNow_12 rfl rfl rfl ?_
        refine g_iload_n C 0 dX12_earliestNow_13 rfl rfl rfl ?_
        refine g_iconst C (v := 1) dX12_earliestNow_14 (by decide) rfl ?_
        refine g_callVi C (As := [.int (nI (k)), .int (1)]) (q := (RX12, TX12, 36)) (kw_X12_lookedAt l D b z hM hR h13 (y := k) (by omega)) hw_12_169 (hM) rfl (by decide) rfl rfl (Nat.le_of_ble_eq_true rfl) ⟨Nat.zero_le _, Nat.zero_le _⟩ dX12_earliestNow_15 (pc' := 18) rfl ?_
        rintro r1 h9 ⟨er, e9⟩
        subst h9; subst er
        have hle1 : wrS σ (k) ≤ 12 := by first | exact wrongC_le _ _ _ _ _ | exact seenC_le _ _ _ _
        refine g_istore C ([(4, .int (nI (wrS σ (k)))), (3, .int (nI (k))), (2, .int (nI (leN σ o))), (1, .int (optI o)), (0, .ref (m))]) dX12_earliestNow_18 (by decide) rfl rfl ?_
        refine g_aload_n C 4 dX12_earliestNow_20 rfl rfl rfl ?_
        refine g_iload_n C 1 dX12_earliestNow_21 rfl rfl rfl ?_
        refine g_iconst C (v := 0) dX12_earliestNow_22 (by decide) rfl ?_
        refine g_callVi C (As := [.int (nI (k)), .int (0)]) (q := (RX12, TX12, 36)) (ks_X12_lookedAt l D b z hM hR h13 (y := k) (by omega)) hw_12_169 (hM) rfl (by decide) rfl rfl (Nat.le_of_ble_eq_true rfl) ⟨Nat.zero_le _, Nat.zero_le _⟩ dX12_earliestNow_23 (pc' := 26) rfl ?_
        rintro r3 h9 ⟨er, e9⟩
        subst h9; subst er
        have hle3 : seS σ (k) ≤ 12 := by first | exact wrongC_le _ _ _ _ _ | exact seenC_le _ _ _ _
        refine g_if_le C dX12_earliestNow_26 (tgt := 39) (by decide) (pc' := 29) rfl ?_ ?_
        · intro c26
          replace c26 := (nI_leI (a := seS σ (k)) (b := 0) (by omega) (by omega)).mp c26
          refine g_iconst C (v := 0) dX12_earliestNow_39 (by decide) rfl ?_
          refine g_istore C ([(5, .int (0)), (4, .int (nI (wrS σ (k)))), (3, .int (nI (k))), (2, .int (nI (leN σ o))), (1, .int (optI o)), (0, .ref (m))]) dX12_earliestNow_40 (by decide) rfl rfl ?_
          refine g_iload C 0 dX12_earliestNow_42 rfl rfl ?_
          refine g_if_eq C dX12_earliestNow_44 (tgt := 51) (by decide) (pc' := 47) rfl (fun _ => ?_) (fun c44 => absurd (by decide) c44)
          refine g_iload_n C 4 dX12_earliestNow_51 rfl rfl rfl ?_
          refine g_istore_n C ([(1, .int (optI o)), (5, .int (0)), (4, .int (nI (wrS σ (k)))), (3, .int (nI (k))), (2, .int (nI (leN σ o))), (0, .ref (m))]) dX12_earliestNow_52 rfl (by decide) rfl rfl ?_
          refine g_iload C 1 dX12_earliestNow_53 rfl rfl ?_
          refine g_if_eq C dX12_earliestNow_55 (tgt := 63) (by decide) (pc' := 58) rfl (fun _ => ?_) (fun c55 => absurd (by decide) c55)
          refine g_iload_n C 4 dX12_earliestNow_63 rfl rfl rfl ?_
          refine g_istore_n C ([(2, .int (nI (leN σ o))), (1, .int (optI o)), (5, .int (0)), (4, .int (nI (wrS σ (k)))), (3, .int (nI (k))), (0, .ref (m))]) dX12_earliestNow_64 rfl (by decide) rfl rfl ?_
          refine g_iinc C (v := nI (k + 1)) 4 ([(3, .int (nI (k + 1))), (2, .int (nI (leN σ o))), (1, .int (optI o)), (5, .int (0)), (4, .int (nI (wrS σ (k)))), (0, .ref (m))]) dX12_earliestNow_65 rfl (nI_1 _) (by decide) rfl rfl ?_
          refine g_goto C dX12_earliestNow_68 (tgt := 7) (by decide) ?_
          refine q_lsub [0, 1, 2, 5] (L' := [(3, .int (nI (k + 1))), (2, .int (nI (leN σ o))), (1, .int (optI o)), (0, .ref (m))]) rfl ?_
          exact ih7 (k + 1) (o) (by omega) (by omega) (by rw [er_step σ k (wrongC_le _ _ _ _ _), ← ho]; exact (if_neg (by omega)).symm)
        · intro c26
          replace c26 := (not_congr (nI_leI (a := seS σ (k)) (b := 0) (by omega) (by omega))).mp c26
          refine g_iload C 0 dX12_earliestNow_29 rfl rfl ?_
          refine g_iload_n C 2 dX12_earliestNow_31 rfl rfl rfl ?_
          refine g_icmp_ge C dX12_earliestNow_32 (tgt := 39) (by decide) (pc' := 35) rfl ?_ ?_
          · intro c32
            replace c32 := (nI_leI (a := leN σ o) (b := wrS σ (k)) (by omega) (by omega)).mp c32
            refine g_iconst C (v := 0) dX12_earliestNow_39 (by decide) rfl ?_
            refine g_istore C ([(5, .int (0)), (4, .int (nI (wrS σ (k)))), (3, .int (nI (k))), (2, .int (nI (leN σ o))), (1, .int (optI o)), (0, .ref (m))]) dX12_earliestNow_40 (by decide) rfl rfl ?_
            refine g_iload C 0 dX12_earliestNow_42 rfl rfl ?_
            refine g_if_eq C dX12_earliestNow_44 (tgt := 51) (by decide) (pc' := 47) rfl (fun _ => ?_) (fun c44 => absurd (by decide) c44)
            refine g_iload_n C 4 dX12_earliestNow_51 rfl rfl rfl ?_
            refine g_istore_n C ([(1, .int (optI o)), (5, .int (0)), (4, .int (nI (wrS σ (k)))), (3, .int (nI (k))), (2, .int (nI (leN σ o))), (0, .ref (m))]) dX12_earliestNow_52 rfl (by decide) rfl rfl ?_
            refine g_iload C 1 dX12_earliestNow_53 rfl rfl ?_
            refine g_if_eq C dX12_earliestNow_55 (tgt := 63) (by decide) (pc' := 58) rfl (fun _ => ?_) (fun c55 => absurd (by decide) c55)
            refine g_iload_n C 4 dX12_earliestNow_63 rfl rfl rfl ?_
            refine g_istore_n C ([(2, .int (nI (leN σ o))), (1, .int (optI o)), (5, .int (0)), (4, .int (nI (wrS σ (k)))), (3, .int (nI (k))), (0, .ref (m))]) dX12_earliestNow_64 rfl (by decide) rfl rfl ?_
            refine g_iinc C (v := nI (k + 1)) 4 ([(3, .int (nI (k + 1))), (2, .int (nI (leN σ o))), (1, .int (optI o)), (5, .int (0)), (4, .int (nI (wrS σ (k)))), (0, .ref (m))]) dX12_earliestNow_65 rfl (nI_1 _) (by decide) rfl rfl ?_
            refine g_goto C dX12_earliestNow_68 (tgt := 7) (by decide) ?_
            refine q_lsub [0, 1, 2, 5] (L' := [(3, .int (nI (k + 1))), (2, .int (nI (leN σ o))), (1, .int (optI o)), (0, .ref (m))]) rfl ?_
            exact ih7 (k + 1) (o) (by omega) (by omega) (by rw [er_step σ k (wrongC_le _ _ _ _ _), ← ho]; exact (if_neg (by omega)).symm)
          · intro c32
            replace c32 := (not_congr (nI_leI (a := leN σ o) (b := wrS σ (k)) (by omega) (by omega))).mp c32
            refine g_iconst C (v := 1) dX12_earliestNow_35 (by decide) rfl ?_
            refine g_goto C dX12_earliestNow_36 (tgt := 40) (by decide) ?_
            refine g_istore C ([(5, .int (1)), (4, .int (nI (wrS σ (k)))), (3, .int (nI (k))), (2, .int (nI (leN σ o))), (1, .int (optI o)), (0, .ref (m))]) dX12_earliestNow_40 (by decide) rfl rfl ?_
            refine g_iload C 0 dX12_earliestNow_42 rfl rfl ?_
            refine g_if_eq C dX12_earliestNow_44 (tgt := 51) (by decide) (pc' := 47) rfl (fun c44 => absurd c44 (by decide)) (fun _ => ?_)
            refine g_iload_n C 2 dX12_earliestNow_47 rfl rfl rfl ?_
            refine g_goto C dX12_earliestNow_48 (tgt := 52) (by decide) ?_
            refine g_istore_n C ([(1, .int (nI (k))), (5, .int (1)), (4, .int (nI (wrS σ (k)))), (3, .int (nI (k))), (2, .int (nI (leN σ o))), (0, .ref (m))]) dX12_earliestNow_52 rfl (by decide) rfl rfl ?_
            refine g_iload C 1 dX12_earliestNow_53 rfl rfl ?_
            refine g_if_eq C dX12_earliestNow_55 (tgt := 63) (by decide) (pc' := 58) rfl (fun c55 => absurd c55 (by decide)) (fun _ => ?_)
            refine g_iload C 2 dX12_earliestNow_58 rfl rfl ?_
            refine g_goto C dX12_earliestNow_60 (tgt := 64) (by decide) ?_
            refine g_istore_n C ([(2, .int (nI (wrS σ (k)))), (1, .int (nI (k))), (5, .int (1)), (4, .int (nI (wrS σ (k)))), (3, .int (nI (k))), (0, .ref (m))]) dX12_earliestNow_64 rfl (by decide) rfl rfl ?_
            refine g_iinc C (v := nI (k + 1)) 4 ([(3, .int (nI (k + 1))), (2, .int (nI (wrS σ (k)))), (1, .int (nI (k))), (5, .int (1)), (4, .int (nI (wrS σ (k)))), (0, .ref (m))]) dX12_earliestNow_65 rfl (nI_1 _) (by decide) rfl rfl ?_
            refine g_goto C dX12_earliestNow_68 (tgt := 7) (by decide) ?_
            refine q_lsub [0, 1, 2, 5] (L' := [(3, .int (nI (k + 1))), (2, .int (nI (wrS σ (k)))), (1, .int (nI (k))), (0, .ref (m))]) rfl ?_
            exact ih7 (k + 1) (some k) (by omega) (by omega) (by rw [er_step σ k (wrongC_le _ _ _ _ _), ← ho]; exact (if_pos ⟨by omega, by omega⟩).symm)
  exact loop7 _ (0) (none) (Nat.lt_succ_self _) (by omega) (rfl)
set_option maxHeartbeats 4000000 in
set_option maxRecDepth 100000 in
theorem k_X12_earliest (l : Launch) (D : va_G) (b z : Nat) {h : qH} {m : Nat} {σ : sg} {s18 s35 : Int64} {s19 s20 s23 s24 : Int32} {f21 f22 : Nat → Int32} (hM : MdO h m σ s18 s19 s20 s23 s24 s35) (hR : MdR D h m σ f21 f22) (h13 : gN σ 13 ≤ 12) : qMi l D b yX12_earliest cX12_earliest 1 .int 2 50 [.ref (m)] h z (fun r0 h' => r0 = cEarliest σ ∧ h' = h) := by
  refine q_i (L := [(0, .ref (m))]) (own := RX12) (by decide) rfl (Nat.le_of_ble_eq_true rfl) rfl ?_
  intro X C ret
  refine g_aload_n C 0 dX12_earliest_0 rfl rfl rfl ?_
  refine g_callVi C (As := []) (q := (RX12, TX12, 36)) (k_X12_earliestNow l D b z hM hR h13) hw_12_172 (hM) rfl (by decide) rfl rfl (Nat.le_of_ble_eq_true rfl) ⟨Nat.zero_le _, Nat.zero_le _⟩ dX12_earliest_1 (pc' := 4) rfl ?_
  rintro r1 h9 ⟨er, e9⟩
  subst h9; subst er
  exact ret _ _ _ _ dX12_earliest_4 rfl (⟨rfl, rfl⟩)
theorem paS_stab {n : Nat} {pa : Nat → Int32} : ∀ d, paS n pa (n + d) = paS n pa n
  | 0 => rfl
  | d + 1 => by
    have e : paS n pa (n + (d + 1)) = paS n pa (n + d) + (if n + d < n then pa (n + d) else 0) := rfl
    rw [e, if_neg (by omega), paS_stab d, Int32.add_zero]
theorem pa_end {n : Nat} {pa : Nat → Int32} (h : n ≤ 4) : paS n pa n = paS n pa 4 := by
  have := paS_stab (n := n) (pa := pa) (4 - n)
  rw [show n + (4 - n) = 4 by omega] at this
  exact this.symm
set_option maxHeartbeats 4000000 in
set_option maxRecDepth 100000 in
theorem k_X12_paidAll (l : Launch) (D : va_G) (b z : Nat) {h : qH} {m : Nat} {σ : sg} {s18 s35 : Int64} {s19 s20 s23 s24 : Int32} {f21 f22 : Nat → Int32} (hM : MdO h m σ s18 s19 s20 s23 s24 s35) (hR : MdR D h m σ f21 f22) (h8 : gN σ 8 ≤ 4) : qMi l D b yX12_paidAll cX12_paidAll 3 .int 0 0 [.ref (m)] h z (fun r0 h' => r0 = paS (gN σ 8) (gB σ 12) 4 ∧ h' = h) := by
  refine q_i (L := [(0, .ref (m))]) (own := RX12) (by decide) rfl (Nat.le_of_ble_eq_true rfl) rfl ?_
  intro X C ret
  refine g_iconst C (v := 0) dX12_paidAll_0 (by decide) rfl ?_
  refine g_istore_n C ([(1, .int (0)), (0, .ref (m))]) dX12_paidAll_1 rfl (by decide) rfl rfl ?_
  refine g_iconst C (v := 0) dX12_paidAll_2 (by decide) rfl ?_
  refine g_istore_n C ([(2, .int (0)), (1, .int (0)), (0, .ref (m))]) dX12_paidAll_3 rfl (by decide) rfl rfl ?_
  have loop4 : ∀ (N : Nat) (k : Nat) (c : Int32), 5 - k < N → (k ≤ gN σ 8) → (c = paS (gN σ 8) (gB σ 12) k) → qG X 0 0 z h 4 [(2, .int (nI (k))), (1, .int (c)), (0, .ref (m))] [] := by
    intro N
    induction N with
    | zero => intro k c hm; exact absurd hm (Nat.not_lt_zero _)
    | succ N ih4 =>
      intro k c hm hk hc
      refine g_iload_n C 0 dX12_paidAll_4 rfl rfl rfl ?_
      refine g_aload_n C 2 dX12_paidAll_5 rfl rfl rfl ?_
      refine gf_12_95 C (hM) (v := .int (nI (gN (σ) 8))) rfl dX12_paidAll_6 rfl ?_
      refine g_icmp_ge C dX12_paidAll_9 (tgt := 27) (by decide) (pc' := 12) rfl ?_ ?_
      · intro c9
        replace c9 := (nI_leI (a := gN (σ) 8) (b := k) (by omega) (by omega)).mp c9
        refine g_iload_n C 1 dX12_paidAll_27 rfl rfl rfl ?_
        exact ret _ _ _ _ dX12_paidAll_28 rfl (⟨by rw [hc, show k = gN σ 8 by omega, pa_end h8], rfl⟩)
      · intro c9
        replace c9 := (not_congr (nI_leI (a := gN (σ) 8) (b := k) (by omega) (by omega))).mp c9
        refine g_iload_n C 1 dX12_paidAll_12 rfl rfl rfl ?_
        refine g_aload_n C 2 dX12_paidAll_13 rfl rfl rfl ?_
        refine gf_12_25 C (hM) (v := .ref (m + 6)) rfl dX12_paidAll_14 rfl ?_
        refine g_iload_n C 0 dX12_paidAll_17 rfl rfl rfl ?_
        refine g_iald' C (hR.2.2.2.2.2.1) (j := k) rfl (by omega) (by decide) dX12_paidAll_18 rfl ?_
        refine g_iadd C dX12_paidAll_19 rfl ?_
        refine g_istore_n C ([(1, .int ((c) + (gB (σ) 12 (k)))), (2, .int (nI (k))), (0, .ref (m))]) dX12_paidAll_20 rfl (by decide) rfl rfl ?_
        refine g_iinc C (v := nI (k + 1)) 1 ([(2, .int (nI (k + 1))), (1, .int ((c) + (gB (σ) 12 (k)))), (0, .ref (m))]) dX12_paidAll_21 rfl (nI_1 _) (by decide) rfl rfl ?_
        refine g_goto C dX12_paidAll_24 (tgt := 4) (by decide) ?_
        exact ih4 (k + 1) (c + gB σ 12 k) (by omega) (by omega) (by simp only [paS]; rw [hc, if_pos (by omega)])
  exact loop4 _ (0) (0) (Nat.lt_succ_self _) (Nat.zero_le _) (rfl)
set_option maxHeartbeats 4000000 in
set_option maxRecDepth 100000 in
theorem k_X12_howMany (l : Launch) (D : va_G) (b z : Nat) {h : qH} {m : Nat} {σ : sg} {s18 s35 : Int64} {s19 s20 s23 s24 : Int32} {f21 f22 : Nat → Int32} (hM : MdO h m σ s18 s19 s20 s23 s24 s35) (hR : MdR D h m σ f21 f22) (h8 : gN σ 8 ≤ 4) (w : Int32) : qMi l D b yX12_howMany cX12_howMany 2 .int 1 22 [.ref (m), .int (w)] h z (fun r0 h' => r0 = cCount σ w ∧ h' = h) := by
  refine q_i (L := [(0, .ref (m)), (1, .int (w))]) (own := RX12) (by decide) rfl (Nat.le_of_ble_eq_true rfl) rfl ?_
  intro X C ret
  refine g_iload_n C 1 dX12_howMany_0 rfl rfl rfl ?_
  by_cases c1_0 : (w) = 0
  · refine g_tableIn C dX12_howMany_1 (off := 55) (tgt := 56) (by rw [c1_0]; decide) (by rw [c1_0]; decide) (by rw [c1_0]; decide) (by decide) ?_
    refine g_aload_n C 0 dX12_howMany_56 rfl rfl rfl ?_
    refine gf_12_76 C (hM) (v := .int (nI (gN (σ) 3))) rfl dX12_howMany_57 rfl ?_
    exact ret _ _ _ _ dX12_howMany_60 rfl (⟨by unfold cCount; rw [if_pos c1_0], rfl⟩)
  by_cases c1_1 : (w) = 1
  · refine g_tableIn C dX12_howMany_1 (off := 60) (tgt := 61) (by rw [c1_1]; decide) (by rw [c1_1]; decide) (by rw [c1_1]; decide) (by decide) ?_
    refine g_aload_n C 0 dX12_howMany_61 rfl rfl rfl ?_
    refine gf_12_79 C (hM) (v := .int (nI (gN (σ) 4))) rfl dX12_howMany_62 rfl ?_
    exact ret _ _ _ _ dX12_howMany_65 rfl (⟨by unfold cCount; rw [if_neg c1_0, if_pos c1_1], rfl⟩)
  by_cases c1_2 : (w) = 2
  · refine g_tableIn C dX12_howMany_1 (off := 65) (tgt := 66) (by rw [c1_2]; decide) (by rw [c1_2]; decide) (by rw [c1_2]; decide) (by decide) ?_
    refine g_aload_n C 0 dX12_howMany_66 rfl rfl rfl ?_
    refine gf_12_89 C (hM) (v := .int (gI (σ) 5)) rfl dX12_howMany_67 rfl ?_
    exact ret _ _ _ _ dX12_howMany_70 rfl (⟨by unfold cCount; rw [if_neg c1_0, if_neg c1_1, if_pos c1_2], rfl⟩)
  by_cases c1_3 : (w) = 3
  · refine g_tableIn C dX12_howMany_1 (off := 70) (tgt := 71) (by rw [c1_3]; decide) (by rw [c1_3]; decide) (by rw [c1_3]; decide) (by decide) ?_
    refine g_aload_n C 0 dX12_howMany_71 rfl rfl rfl ?_
    refine gf_12_92 C (hM) (v := .int (nI (gN (σ) 6))) rfl dX12_howMany_72 rfl ?_
    exact ret _ _ _ _ dX12_howMany_75 rfl (⟨by unfold cCount; rw [if_neg c1_0, if_neg c1_1, if_neg c1_2, if_pos c1_3], rfl⟩)
  by_cases c1_4 : (w) = 4
  · refine g_tableIn C dX12_howMany_1 (off := 75) (tgt := 76) (by rw [c1_4]; decide) (by rw [c1_4]; decide) (by rw [c1_4]; decide) (by decide) ?_
    refine g_aload_n C 0 dX12_howMany_76 rfl rfl rfl ?_
    refine g_callVi C (As := []) (q := (RX12, TX12, 36)) (k_X12_toldMany l D b z hM hR) hw_12_119 (hM) rfl (by decide) rfl rfl (Nat.le_of_ble_eq_true rfl) ⟨Nat.zero_le _, Nat.zero_le _⟩ dX12_howMany_77 (pc' := 80) rfl ?_
    rintro r1 h9 ⟨er, e9⟩
    subst h9; subst er
    exact ret _ _ _ _ dX12_howMany_80 rfl (⟨by unfold cCount; rw [if_neg c1_0, if_neg c1_1, if_neg c1_2, if_neg c1_3, if_pos c1_4], rfl⟩)
  by_cases c1_5 : (w) = 5
  · refine g_tableIn C dX12_howMany_1 (off := 80) (tgt := 81) (by rw [c1_5]; decide) (by rw [c1_5]; decide) (by rw [c1_5]; decide) (by decide) ?_
    refine g_aload_n C 0 dX12_howMany_81 rfl rfl rfl ?_
    refine gf_12_95 C (hM) (v := .int (nI (gN (σ) 8))) rfl dX12_howMany_82 rfl ?_
    exact ret _ _ _ _ dX12_howMany_85 rfl (⟨by unfold cCount; rw [if_neg c1_0, if_neg c1_1, if_neg c1_2, if_neg c1_3, if_neg c1_4, if_pos c1_5], rfl⟩)
  by_cases c1_6 : (w) = 6
  · refine g_tableIn C dX12_howMany_1 (off := 85) (tgt := 86) (by rw [c1_6]; decide) (by rw [c1_6]; decide) (by rw [c1_6]; decide) (by decide) ?_
    refine g_aload_n C 0 dX12_howMany_86 rfl rfl rfl ?_
    refine g_callVi C (As := []) (q := (RX12, TX12, 36)) (k_X12_paidAll l D b z hM hR h8) hw_12_230 (hM) rfl (by decide) rfl rfl (Nat.le_of_ble_eq_true rfl) ⟨Nat.zero_le _, Nat.zero_le _⟩ dX12_howMany_87 (pc' := 90) rfl ?_
    rintro r2 h9 ⟨er, e9⟩
    subst h9; subst er
    exact ret _ _ _ _ dX12_howMany_90 rfl (⟨by unfold cCount; rw [if_neg c1_0, if_neg c1_1, if_neg c1_2, if_neg c1_3, if_neg c1_4, if_neg c1_5, if_pos c1_6], rfl⟩)
  by_cases c1_7 : (w) = 7
  · refine g_tableIn C dX12_howMany_1 (off := 90) (tgt := 91) (by rw [c1_7]; decide) (by rw [c1_7]; decide) (by rw [c1_7]; decide) (by decide) ?_
    refine g_aload_n C 0 dX12_howMany_91 rfl rfl rfl ?_
    refine gf_12_98 C (hM) (v := .int (nI (gN (σ) 13))) rfl dX12_howMany_92 rfl ?_
    exact ret _ _ _ _ dX12_howMany_95 rfl (⟨by unfold cCount; rw [if_neg c1_0, if_neg c1_1, if_neg c1_2, if_neg c1_3, if_neg c1_4, if_neg c1_5, if_neg c1_6, if_pos c1_7], rfl⟩)
  by_cases c1_8 : (w) = 8
  · refine g_tableIn C dX12_howMany_1 (off := 95) (tgt := 96) (by rw [c1_8]; decide) (by rw [c1_8]; decide) (by rw [c1_8]; decide) (by decide) ?_
    refine g_aload_n C 0 dX12_howMany_96 rfl rfl rfl ?_
    refine gf_12_60 C (hM) (v := .int (nI (gN (σ) 16))) rfl dX12_howMany_97 rfl ?_
    exact ret _ _ _ _ dX12_howMany_100 rfl (⟨by unfold cCount; rw [if_neg c1_0, if_neg c1_1, if_neg c1_2, if_neg c1_3, if_neg c1_4, if_neg c1_5, if_neg c1_6, if_neg c1_7, if_pos c1_8], rfl⟩)
  by_cases c1_9 : (w) = 9
  · refine g_tableIn C dX12_howMany_1 (off := 100) (tgt := 101) (by rw [c1_9]; decide) (by rw [c1_9]; decide) (by rw [c1_9]; decide) (by decide) ?_
    refine g_aload_n C 0 dX12_howMany_101 rfl rfl rfl ?_
    refine gf_12_86 C (hM) (v := .int (nI (gN (σ) 1))) rfl dX12_howMany_102 rfl ?_
    exact ret _ _ _ _ dX12_howMany_105 rfl (⟨by unfold cCount; rw [if_neg c1_0, if_neg c1_1, if_neg c1_2, if_neg c1_3, if_neg c1_4, if_neg c1_5, if_neg c1_6, if_neg c1_7, if_neg c1_8, if_pos c1_9], rfl⟩)
  refine g_tableOut C dX12_howMany_1 (tgt := 106) (swo_0_9 c1_0 c1_1 c1_2 c1_3 c1_4 c1_5 c1_6 c1_7 c1_8 c1_9) (by decide) ?_
  refine g_bipush C (v := -102) dX12_howMany_106 (by decide) rfl ?_
  exact ret _ _ _ _ dX12_howMany_108 rfl (⟨by unfold cCount; rw [if_neg c1_0, if_neg c1_1, if_neg c1_2, if_neg c1_3, if_neg c1_4, if_neg c1_5, if_neg c1_6, if_neg c1_7, if_neg c1_8, if_neg c1_9], rfl⟩)
set_option maxHeartbeats 4000000 in
set_option maxRecDepth 100000 in
theorem k_X12_count (l : Launch) (D : va_G) (b z : Nat) {h : qH} {m : Nat} {σ : sg} {s18 s35 : Int64} {s19 s20 s23 s24 : Int32} {f21 f22 : Nat → Int32} (hM : MdO h m σ s18 s19 s20 s23 s24 s35) (hR : MdR D h m σ f21 f22) (h8 : gN σ 8 ≤ 4) (w : Int32) : qMi l D b yX12_count cX12_count 2 .int 2 43 [.ref (m), .int (w)] h z (fun r0 h' => r0 = cCount σ w ∧ h' = h) := by
  refine q_i (L := [(0, .ref (m)), (1, .int (w))]) (own := RX12) (by decide) rfl (Nat.le_of_ble_eq_true rfl) rfl ?_
  intro X C ret
  refine g_aload_n C 0 dX12_count_0 rfl rfl rfl ?_
  refine g_iload_n C 1 dX12_count_1 rfl rfl rfl ?_
  refine g_callVi C (As := [.int (w)]) (q := (RX12, TX12, 36)) (k_X12_howMany l D b z hM hR h8 (w)) hw_12_233 (hM) rfl (by decide) rfl rfl (Nat.le_of_ble_eq_true rfl) ⟨Nat.zero_le _, Nat.zero_le _⟩ dX12_count_2 (pc' := 5) rfl ?_
  rintro r1 h9 ⟨er, e9⟩
  subst h9; subst er
  exact ret _ _ _ _ dX12_count_5 rfl (⟨rfl, rfl⟩)
def mLikeliest (σ : sg) : Int32 := if gN σ 0 = 0 then -103 else lkM σ
def mWays (σ : sg) : Int32 := if gN σ 0 = 0 then -103 else nI (wyM σ)
noncomputable def mSure (σ : sg) (k : Int32) : Int32 := cIf (inP 1 6 k) (if gN σ 0 = 0 then -103 else srF (fun w => wgC σ k.toNatClampNeg (nI w))) (-101)
set_option maxHeartbeats 4000000 in
set_option maxRecDepth 100000 in
theorem k_X12_likeliest (l : Launch) (D : va_G) (b z : Nat) {h : qH} {m : Nat} {σ : sg} {s18 s35 : Int64} {s19 s20 s23 s24 : Int32} {f21 f22 : Nat → Int32} (hM : MdO h m σ s18 s19 s20 s23 s24 s35) (hR : MdR D h m σ f21 f22) (h0 : gN σ 0 ≤ 1) (h6 : gN σ 6 < 3) : qMi l D b yX12_likeliest cX12_likeliest 1 .int 3 75 [.ref (m)] h z (fun r0 h' => r0 = mLikeliest σ ∧ h' = h) := by
  refine q_i (L := [(0, .ref (m))]) (own := RX12) (by decide) rfl (Nat.le_of_ble_eq_true rfl) rfl ?_
  intro X C ret
  refine g_aload_n C 0 dX12_likeliest_0 rfl rfl rfl ?_
  refine gf_12_82 C (hM) (v := .int (nI (gN (σ) 0))) rfl dX12_likeliest_1 rfl ?_
  refine g_if_eq C dX12_likeliest_4 (tgt := 14) (by decide) (pc' := 7) rfl ?_ ?_
  · intro c4
    replace c4 := (nI_eq (a := gN (σ) 0) (b := 0) (by omega) (by omega)).mp c4
    refine g_bipush C (v := -103) dX12_likeliest_14 (by decide) rfl ?_
    exact ret _ _ _ _ dX12_likeliest_16 rfl (⟨by unfold mLikeliest; rw [if_pos c4], rfl⟩)
  · intro c4
    replace c4 := (not_congr (nI_eq (a := gN (σ) 0) (b := 0) (by omega) (by omega))).mp c4
    refine g_aload_n C 0 dX12_likeliest_7 rfl rfl rfl ?_
    refine g_callVi C (As := []) (q := (RX12, TX12, 36)) (k_X12_likeliestNow l D b z hM hR h6) hw_12_151 (hM) rfl (by decide) rfl rfl (Nat.le_of_ble_eq_true rfl) ⟨Nat.zero_le _, Nat.zero_le _⟩ dX12_likeliest_8 (pc' := 11) rfl ?_
    rintro r1 h9 ⟨er, e9⟩
    subst h9; rw [er]
    refine g_goto C dX12_likeliest_11 (tgt := 16) (by decide) ?_
    exact ret _ _ _ _ dX12_likeliest_16 rfl (⟨by unfold mLikeliest; rw [if_neg c4], rfl⟩)
set_option maxHeartbeats 4000000 in
set_option maxRecDepth 100000 in
theorem k_X12_ways (l : Launch) (D : va_G) (b z : Nat) {h : qH} {m : Nat} {σ : sg} {s18 s35 : Int64} {s19 s20 s23 s24 : Int32} {f21 f22 : Nat → Int32} (hM : MdO h m σ s18 s19 s20 s23 s24 s35) (hR : MdR D h m σ f21 f22) (h0 : gN σ 0 ≤ 1) (h6 : gN σ 6 < 3) : qMi l D b yX12_ways cX12_ways 1 .int 3 71 [.ref (m)] h z (fun r0 h' => r0 = mWays σ ∧ h' = h) := by
  refine q_i (L := [(0, .ref (m))]) (own := RX12) (by decide) rfl (Nat.le_of_ble_eq_true rfl) rfl ?_
  intro X C ret
  refine g_aload_n C 0 dX12_ways_0 rfl rfl rfl ?_
  refine gf_12_82 C (hM) (v := .int (nI (gN (σ) 0))) rfl dX12_ways_1 rfl ?_
  refine g_if_eq C dX12_ways_4 (tgt := 14) (by decide) (pc' := 7) rfl ?_ ?_
  · intro c4
    replace c4 := (nI_eq (a := gN (σ) 0) (b := 0) (by omega) (by omega)).mp c4
    refine g_bipush C (v := -103) dX12_ways_14 (by decide) rfl ?_
    exact ret _ _ _ _ dX12_ways_16 rfl (⟨by unfold mWays; rw [if_pos c4], rfl⟩)
  · intro c4
    replace c4 := (not_congr (nI_eq (a := gN (σ) 0) (b := 0) (by omega) (by omega))).mp c4
    refine g_aload_n C 0 dX12_ways_7 rfl rfl rfl ?_
    refine g_callVi C (As := []) (q := (RX12, TX12, 36)) (k_X12_waysNow l D b z hM hR h6) hw_12_154 (hM) rfl (by decide) rfl rfl (Nat.le_of_ble_eq_true rfl) ⟨Nat.zero_le _, Nat.zero_le _⟩ dX12_ways_8 (pc' := 11) rfl ?_
    rintro r1 h9 ⟨er, e9⟩
    subst h9; subst er
    refine g_goto C dX12_ways_11 (tgt := 16) (by decide) ?_
    exact ret _ _ _ _ dX12_ways_16 rfl (⟨by unfold mWays; rw [if_neg c4], rfl⟩)
set_option maxHeartbeats 4000000 in
set_option maxRecDepth 100000 in
theorem k_X12_sure (l : Launch) (D : va_G) (b z : Nat) {h : qH} {m : Nat} {σ : sg} {s18 s35 : Int64} {s19 s20 s23 s24 : Int32} {f21 f22 : Nat → Int32} (hM : MdO h m σ s18 s19 s20 s23 s24 s35) (hR : MdR D h m σ f21 f22) (h0 : gN σ 0 ≤ 1) (h6 : gN σ 6 < 3) (k : Int32) : qMi l D b yX12_sure cX12_sure 2 .int 4 99 [.ref (m), .int (k)] h z (fun r0 h' => r0 = mSure σ k ∧ h' = h) := by
  refine q_i (L := [(0, .ref (m)), (1, .int (k))]) (own := RX12) (by decide) rfl (Nat.le_of_ble_eq_true rfl) rfl ?_
  intro X C ret
  refine g_iload_n C 1 dX12_sure_0 rfl rfl rfl ?_
  refine g_iconst C (v := 1) dX12_sure_1 (by decide) rfl ?_
  refine g_bipush C (v := 6) dX12_sure_2 (by decide) rfl ?_
  refine g_callSi C (As := [.int (k), .int (1), .int (6)]) (k_X12_within l D b z h (k) (1) (6)) hw_12_56 (by decide) rfl rfl (Nat.le_of_ble_eq_true rfl) ⟨Nat.zero_le _, Nat.zero_le _⟩ dX12_sure_4 (pc' := 7) rfl ?_
  rintro r1 h9 ⟨⟨er, hp4⟩ | ⟨er, hp4⟩, e9⟩
  · subst h9; subst er
    have hp4 := (wit_in (lo := 1) (hi := 6) (x := k) (by decide) (by decide)).mp hp4
    have hp4_ := hp4
    obtain ⟨a, rfl, hp4a, hp4b⟩ := hp4_
    refine g_if_ne C dX12_sure_7 (tgt := 13) (by decide) (pc' := 10) rfl (fun _ => ?_) (fun c7 => absurd c7 (by decide))
    refine g_aload_n C 0 dX12_sure_13 rfl rfl rfl ?_
    refine gf_12_82 C (hM) (v := .int (nI (gN (σ) 0))) rfl dX12_sure_14 rfl ?_
    refine g_if_eq C dX12_sure_17 (tgt := 28) (by decide) (pc' := 20) rfl ?_ ?_
    · intro c17
      replace c17 := (nI_eq (a := gN (σ) 0) (b := 0) (by omega) (by omega)).mp c17
      refine g_bipush C (v := -103) dX12_sure_28 (by decide) rfl ?_
      exact ret _ _ _ _ dX12_sure_30 rfl (⟨by unfold mSure; rw [cIf_t hp4, if_pos c17], rfl⟩)
    · intro c17
      replace c17 := (not_congr (nI_eq (a := gN (σ) 0) (b := 0) (by omega) (by omega))).mp c17
      refine g_aload_n C 0 dX12_sure_20 rfl rfl rfl ?_
      refine g_iload_n C 1 dX12_sure_21 rfl rfl rfl ?_
      refine g_callVi C (As := [.int (nI (a))]) (q := (RX12, TX12, 36)) (k_X12_sureNow l D b z hM hR h6 (a := a) (by omega)) hw_12_157 (hM) rfl (by decide) rfl rfl (Nat.le_of_ble_eq_true rfl) ⟨Nat.zero_le _, Nat.zero_le _⟩ dX12_sure_22 (pc' := 25) rfl ?_
      rintro r2 h9 ⟨er, e9⟩
      subst h9; subst er
      refine g_goto C dX12_sure_25 (tgt := 30) (by decide) ?_
      exact ret _ _ _ _ dX12_sure_30 rfl (⟨by unfold mSure; rw [cIf_t hp4, if_neg c17, nIc (by omega)], rfl⟩)
  · subst h9; subst er
    have hp4 := (not_congr (wit_in (lo := 1) (hi := 6) (x := k) (by decide) (by decide))).mp hp4
    refine g_if_ne C dX12_sure_7 (tgt := 13) (by decide) (pc' := 10) rfl (fun c7 => absurd (by decide) c7) (fun _ => ?_)
    refine g_bipush C (v := -101) dX12_sure_10 (by decide) rfl ?_
    exact ret _ _ _ _ dX12_sure_12 rfl (⟨by unfold mSure; rw [cIf_f hp4], rfl⟩)

def lwN (x y : Nat) (p : Int32) : Int64 := if p = 0 then lN (x / Nat.gcd x y) else lN (y / Nat.gcd x y)
theorem lN_ne {y : Nat} (hy : y < 2 ^ 63) (h : ¬ y = 0) : ¬ lN y = 0 := fun e => h ((pk_lEQ (b := 0) hy (by decide)).mp e)
theorem lN_z {y : Nat} (hy : y < 2 ^ 63) : lN y = 0 ↔ y = 0 := pk_lEQ (b := 0) hy (by decide)
set_option maxHeartbeats 4000000 in
set_option maxRecDepth 100000 in
theorem k_X12_lowest (l : Launch) (D : va_G) (b z : Nat) (h : qH) {x y : Nat} (hx : x < 2 ^ 63) (hy : y < 2 ^ 63) (hy0 : 0 < y) (p : Int32) : qMl l D b yX12_lowest cX12_lowest 11 0 0 [.long (lN (x)), .long (lN (y)), .int (p)] h z (fun r0 h' => r0 = lwN x y p ∧ h' = h) := by
  refine q_l (L := [(0, .long (lN (x))), (2, .long (lN (y))), (4, .int (p))]) (own := RX12) (by decide) rfl (Nat.le_of_ble_eq_true rfl) rfl ?_
  intro X C ret
  refine g_lload_n C 0 dX12_lowest_0 rfl rfl rfl ?_
  refine g_lstore C ([(5, .long (lN (x))), (0, .long (lN (x))), (2, .long (lN (y))), (4, .int (p))]) dX12_lowest_1 (by decide) rfl rfl ?_
  refine g_lload_n C 2 dX12_lowest_3 rfl rfl rfl ?_
  refine g_lstore C ([(7, .long (lN (y))), (5, .long (lN (x))), (0, .long (lN (x))), (2, .long (lN (y))), (4, .int (p))]) dX12_lowest_4 (by decide) rfl rfl ?_
  have loop6 : ∀ (N : Nat) (a1 : Nat) (b1 : Nat), b1 < N → (a1 < 2 ^ 63) → (b1 < 2 ^ 63) → (Nat.gcd a1 b1 = Nat.gcd x y) → qG X 0 0 z h 6 [(7, .long (lN (b1))), (5, .long (lN (a1))), (0, .long (lN (x))), (2, .long (lN (y))), (4, .int (p))] [] := by
    intro N
    induction N with
    | zero => intro a1 b1 hm; exact absurd hm (Nat.not_lt_zero _)
    | succ N ih6 =>
      intro a1 b1 hm hb9a hb9 hg
      refine g_lload C 0 dX12_lowest_6 rfl rfl ?_
      refine g_lconst C (v := 0) dX12_lowest_8 (by decide) rfl ?_
      refine g_lcmp C dX12_lowest_9 rfl ?_
      refine g_if_eq C dX12_lowest_10 (tgt := 31) (by decide) (pc' := 13) rfl ?_ ?_
      · intro c10
        replace c10 := (lg_cmp_eq _ _).mp c10
        have hb0 : b1 = 0 := (lN_z hb9).mp c10
        subst hb0
        rw [Nat.gcd_zero_right] at hg
        have ha0 : ¬ a1 = 0 := fun e => by rw [hg] at e; have := Nat.gcd_pos_of_pos_right x hy0; omega
        refine g_iload C 4 dX12_lowest_31 rfl rfl ?_
        refine g_if_ne C dX12_lowest_33 (tgt := 43) (by decide) (pc' := 36) rfl ?_ ?_
        · intro c33
          refine g_lload_n C 3 dX12_lowest_43 rfl rfl rfl ?_
          refine g_lload C 1 dX12_lowest_44 rfl rfl ?_
          refine g_ldiv C dX12_lowest_46 (lN_ne hb9a ha0) rfl ?_
          refine g_topl (y := lN (y / a1)) (pk_lDiv (a := y) (b := a1) hy (Nat.pos_of_ne_zero ha0) hb9a) ?_
          exact ret _ _ _ _ dX12_lowest_47 (⟨by unfold lwN; rw [if_neg c33, hg], rfl⟩)
        · intro c33
          refine g_lload_n C 2 dX12_lowest_36 rfl rfl rfl ?_
          refine g_lload C 1 dX12_lowest_37 rfl rfl ?_
          refine g_ldiv C dX12_lowest_39 (lN_ne hb9a ha0) rfl ?_
          refine g_topl (y := lN (x / a1)) (pk_lDiv (a := x) (b := a1) hx (Nat.pos_of_ne_zero ha0) hb9a) ?_
          refine g_goto C dX12_lowest_40 (tgt := 47) (by decide) ?_
          exact ret _ _ _ _ dX12_lowest_47 (⟨by unfold lwN; rw [if_pos c33, hg], rfl⟩)
      · intro c10
        replace c10 := (not_congr (lg_cmp_eq _ _)).mp c10
        have hb0 : ¬ b1 = 0 := fun e => c10 ((lN_z hb9).mpr e)
        refine g_lload C 1 dX12_lowest_13 rfl rfl ?_
        refine g_lload C 0 dX12_lowest_15 rfl rfl ?_
        refine g_lrem C dX12_lowest_17 c10 rfl ?_
        refine g_topl (y := lN (a1 % b1)) (pk_lRem (a := a1) (b := b1) hb9a (Nat.pos_of_ne_zero hb0) hb9) ?_
        refine g_lstore C ([(9, .long (lN (a1 % b1))), (7, .long (lN (b1))), (5, .long (lN (a1))), (0, .long (lN (x))), (2, .long (lN (y))), (4, .int (p))]) dX12_lowest_18 (by decide) rfl rfl ?_
        refine g_lload C 1 dX12_lowest_20 rfl rfl ?_
        refine g_lstore C ([(5, .long (lN (b1))), (9, .long (lN (a1 % b1))), (7, .long (lN (b1))), (0, .long (lN (x))), (2, .long (lN (y))), (4, .int (p))]) dX12_lowest_22 (by decide) rfl rfl ?_
        refine g_lload C 1 dX12_lowest_24 rfl rfl ?_
        refine g_lstore C ([(7, .long (lN (a1 % b1))), (5, .long (lN (b1))), (9, .long (lN (a1 % b1))), (0, .long (lN (x))), (2, .long (lN (y))), (4, .int (p))]) dX12_lowest_26 (by decide) rfl rfl ?_
        refine g_goto C dX12_lowest_28 (tgt := 6) (by decide) ?_
        refine q_lsub [0, 1, 3, 4, 5] (L' := [(7, .long (lN (a1 % b1))), (5, .long (lN (b1))), (0, .long (lN (x))), (2, .long (lN (y))), (4, .int (p))]) rfl ?_
        exact ih6 (b1) (a1 % b1) (by have := Nat.mod_lt a1 (Nat.pos_of_ne_zero hb0); omega) (hb9) (Nat.lt_trans (Nat.mod_lt _ (Nat.pos_of_ne_zero hb0)) hb9) (by rw [← hg, Nat.gcd_comm b1, ← Nat.gcd_rec, Nat.gcd_comm])
  exact loop6 _ (x) (y) (Nat.lt_succ_self _) (hx) (hy) (rfl)

/-! what only asks: the book, the people, counts, the digest -/
theorem inP0_of {hi : Nat} {x : Int32} (hh : hi < 2 ^ 31) (h0 : ¬ x < 0) (h1 : x ≤ nI hi) : inP 0 hi x := by
  obtain ⟨j, hj, rfl⟩ := nI_of h0
  exact ⟨j, rfl, Nat.zero_le _, (nI_leI hj hh).mp h1⟩
theorem inP0_to {hi : Nat} {x : Int32} (hh : hi < 2 ^ 31) (g : inP 0 hi x) : ¬ x < 0 ∧ x ≤ nI hi := by
  obtain ⟨j, rfl, -, hj⟩ := g
  refine ⟨?_, (nI_leI (by omega) hh).mpr hj⟩
  have := (nI_leI (a := 0) (b := j) (by omega) (by omega)).mpr (Nat.zero_le _)
  exact fun g => absurd (Int32.lt_iff_toInt_lt.mp g) (Int.not_lt.mpr (Int32.le_iff_toInt_le.mp this))
noncomputable def cWrong (σ : sg) (y : Int32) : Int32 := cIf (inP 0 4 y) (nI (wrongC (gB σ 14) (gB σ 15) (gN σ 13) y.toNatClampNeg 12)) (-102)
set_option maxHeartbeats 4000000 in
set_option maxRecDepth 100000 in
theorem k_X11_wrong (l : Launch) (D : va_G) (b z : Nat) {h : qH} {x : Nat} {σ : sg} (hC : Cls D h x σ) (y : Int32) : qMi l D b yX11_wrong cX11_wrong 2 .int 2 46 [.ref (x), .int (y)] h z (fun r h' => r = cWrong σ y ∧ h' = h) := by
  refine q_i (L := [(0, .ref (x)), (1, .int (y))]) (own := RX11) (by decide) rfl (Nat.le_of_ble_eq_true rfl) rfl ?_
  intro X C ret
  obtain ⟨hIn, hGa, hSt, hPg, hOl, hPe, hBk, hTr, hIm⟩ := id hC
  replace hGa : GaAt h x (nI (gN σ 1)) := hGa
  replace hSt : StAt D h (x + 1) (tnS σ) (nI (gN σ 3)) (nI (gN σ 4)) := hSt
  replace hPg : PgAt D h (x + 3) (gB σ 17) (nI (gN σ 16)) := hPg
  replace hBk : BkAt D h (x + 40) (gB σ 14) (gB σ 15) (nI (gN σ 13)) := hBk
  obtain ⟨hI0, hI3, hI03, hI4, hI6, hI8, hI13, hI16, hIt, hIk, hI1, hIim, hI25, hI26, hI08⟩ := id hIn
  have hOl1 := hOl.1.1
  refine g_iload_n C 1 dX11_wrong_0 rfl rfl rfl ?_
  refine g_if_lt C dX11_wrong_1 (tgt := 9) (by decide) (pc' := 4) rfl ?_ ?_
  · intro c1
    refine g_bipush C (v := -102) dX11_wrong_9 (by decide) rfl ?_
    refine g_goto C dX11_wrong_11 (tgt := 22) (by decide) ?_
    exact ret _ _ _ _ dX11_wrong_22 rfl (⟨by unfold cWrong; rw [cIf_f (fun g => (inP0_to (by decide) g).1 c1)], rfl⟩)
  · intro c1
    refine g_iload_n C 1 dX11_wrong_4 rfl rfl rfl ?_
    refine g_iconst C (v := 4) dX11_wrong_5 (by decide) rfl ?_
    refine g_icmp_le C dX11_wrong_6 (tgt := 14) (by decide) (pc' := 9) rfl ?_ ?_
    · intro c6
      have hk_ : inP 0 4 y := inP0_of (by decide) c1 c6
      have hk := hk_
      obtain ⟨j, rfl, -, hij⟩ := hk_
      refine g_aload_n C 0 dX11_wrong_14 rfl rfl rfl ?_
      refine gf_11_41 C (hGa) (v := .ref (x + 40)) rfl dX11_wrong_15 rfl ?_
      refine g_iload_n C 1 dX11_wrong_18 rfl rfl rfl ?_
      refine g_callVi C (As := [.int (nI (j))]) (q := (RX0, TX0, 3)) (k_X0_wrongReadings l D b z hI13 hBk (y := j) (by omega)) hw_11_203 (hBk.1) rfl (by decide) rfl rfl (Nat.le_of_ble_eq_true rfl) ⟨Nat.zero_le _, Nat.zero_le _⟩ dX11_wrong_19 (pc' := 22) rfl ?_
      rintro r1 h9 ⟨er, e9⟩
      subst h9; subst er
      exact ret _ _ _ _ dX11_wrong_22 rfl (⟨by unfold cWrong; rw [cIf_t hk, nIc (by omega)], rfl⟩)
    · intro c6
      refine g_bipush C (v := -102) dX11_wrong_9 (by decide) rfl ?_
      refine g_goto C dX11_wrong_11 (tgt := 22) (by decide) ?_
      exact ret _ _ _ _ dX11_wrong_22 rfl (⟨by unfold cWrong; rw [cIf_f (fun g => c6 (inP0_to (hi := 4) (by decide) g).2)], rfl⟩)
def optI : Option Nat → Int32
  | none => -1
  | some f => nI f
def erC (W S : Nat → Nat) : Nat → Option Nat
  | 0 => none
  | k + 1 => match erC W S k with
    | none => if 0 < S k then some k else none
    | some f => if 0 < S k ∧ W k < W f then some k else some f
def wrS (σ : sg) (y : Nat) : Nat := wrongC (gB σ 14) (gB σ 15) (gN σ 13) y 12
def seS (σ : sg) (y : Nat) : Nat := seenC (gB σ 15) (gN σ 13) y 12
theorem nI_nm1 {f : Nat} (h : f < 2 ^ 31) : ¬ nI f = -1 := fun e => by
  have g := (nI_leI (a := 0) (b := f) (by decide) h).mpr (Nat.zero_le _)
  rw [e] at g
  exact absurd g (by decide)
def cEarliest (σ : sg) : Int32 := optI (erC (wrS σ) (seS σ) 5)
set_option maxHeartbeats 4000000 in
set_option maxRecDepth 100000 in
theorem k_X11_earliest (l : Launch) (D : va_G) (b z : Nat) {h : qH} {x : Nat} {σ : sg} (hC : Cls D h x σ)  : qMi l D b yX11_earliest cX11_earliest 4 .int 2 46 [.ref (x)] h z (fun r h' => r = cEarliest σ ∧ h' = h) := by
  refine q_i (L := [(0, .ref (x))]) (own := RX11) (by decide) rfl (Nat.le_of_ble_eq_true rfl) rfl ?_
  intro X C ret
  obtain ⟨hIn, hGa, hSt, hPg, hOl, hPe, hBk, hTr, hIm⟩ := id hC
  replace hGa : GaAt h x (nI (gN σ 1)) := hGa
  replace hSt : StAt D h (x + 1) (tnS σ) (nI (gN σ 3)) (nI (gN σ 4)) := hSt
  replace hPg : PgAt D h (x + 3) (gB σ 17) (nI (gN σ 16)) := hPg
  replace hBk : BkAt D h (x + 40) (gB σ 14) (gB σ 15) (nI (gN σ 13)) := hBk
  obtain ⟨hI0, hI3, hI03, hI4, hI6, hI8, hI13, hI16, hIt, hIk, hI1, hIim, hI25, hI26, hI08⟩ := id hIn
  have hOl1 := hOl.1.1
  refine g_iconst C (v := -1) dX11_earliest_0 (by decide) rfl ?_
  refine g_istore_n C ([(1, .int ((-1))), (0, .ref (x))]) dX11_earliest_1 rfl (by decide) rfl rfl ?_
  refine g_iconst C (v := 0) dX11_earliest_2 (by decide) rfl ?_
  refine g_istore_n C ([(2, .int (0)), (1, .int ((-1))), (0, .ref (x))]) dX11_earliest_3 rfl (by decide) rfl rfl ?_
  have loop4 : ∀ (N : Nat) (k : Nat) (o : Option Nat), 5 - k < N → (k ≤ 5) → (o = erC (wrS σ) (seS σ) k) → (∀ f, o = some f → f < 5) → qG X 0 0 z h 4 [(2, .int (nI (k))), (1, .int (optI o)), (0, .ref (x))] [] := by
    intro N
    induction N with
    | zero => intro k o hm; exact absurd hm (Nat.not_lt_zero _)
    | succ N ih4 =>
      intro k o hm hk ho hf
      refine g_iload_n C 0 dX11_earliest_4 rfl rfl rfl ?_
      refine g_iconst C (v := 4) dX11_earliest_5 (by decide) rfl ?_
      refine g_icmp_gt C dX11_earliest_6 (tgt := 62) (by decide) (pc' := 9) rfl ?_ ?_
      · intro c6
        replace c6 := (nI_ltI (a := 4) (b := k) (by omega) (by omega)).mp c6
        refine g_iload_n C 1 dX11_earliest_62 rfl rfl rfl ?_
        exact ret _ _ _ _ dX11_earliest_63 rfl (⟨by rw [ho, show k = 5 by omega]; rfl, rfl⟩)
      · intro c6
        replace c6 := (not_congr (nI_ltI (a := 4) (b := k) (by omega) (by omega))).mp c6
        rcases o with _ | f
        · show qG X 0 0 z h 9 [(2, .int (nI (k))), (1, .int ((-1))), (0, .ref (x))] []
          refine g_iload_n C 1 dX11_earliest_9 rfl rfl rfl ?_
          refine g_iconst C (v := -1) dX11_earliest_10 (by decide) rfl ?_
          refine g_icmp_eq C dX11_earliest_11 (tgt := 33) (by decide) (pc' := 14) rfl (fun _ => ?_) (fun c11 => absurd (by decide) c11)
          refine g_iconst C (v := 1) dX11_earliest_33 (by decide) rfl ?_
          refine g_goto C dX11_earliest_34 (tgt := 38) (by decide) ?_
          refine g_istore_n C ([(3, .int (1)), (2, .int (nI (k))), (1, .int ((-1))), (0, .ref (x))]) dX11_earliest_38 rfl (by decide) rfl rfl ?_
          refine g_aload_n C 3 dX11_earliest_39 rfl rfl rfl ?_
          refine gf_11_41 C (hGa) (v := .ref (x + 40)) rfl dX11_earliest_40 rfl ?_
          refine g_iload_n C 1 dX11_earliest_43 rfl rfl rfl ?_
          refine g_callVi C (As := [.int (nI (k))]) (q := (RX0, TX0, 3)) (k_X0_readingsSeen l D b z hI13 hBk (y := k) (by omega)) hw_11_206 (hBk.1) rfl (by decide) rfl rfl (Nat.le_of_ble_eq_true rfl) ⟨Nat.zero_le _, Nat.zero_le _⟩ dX11_earliest_44 (pc' := 47) rfl ?_
          rintro r1 h9 ⟨er, e9⟩
          subst h9; subst er
          have hle1 : seS σ (k) ≤ 12 := by first | exact wrongC_le _ _ _ _ _ | exact seenC_le _ _ _ _
          refine g_if_le C dX11_earliest_47 (tgt := 56) (by decide) (pc' := 50) rfl ?_ ?_
          · intro c47
            replace c47 := (nI_leI (a := seS σ (k)) (b := 0) (by omega) (by omega)).mp c47
            refine g_iinc C (v := nI (k + 1)) 1 ([(2, .int (nI (k + 1))), (3, .int (1)), (1, .int ((-1))), (0, .ref (x))]) dX11_earliest_56 rfl (nI_1 _) (by decide) rfl rfl ?_
            refine g_goto C dX11_earliest_59 (tgt := 4) (by decide) ?_
            refine q_lsub [0, 2, 3] (L' := [(2, .int (nI (k + 1))), (1, .int ((-1))), (0, .ref (x))]) rfl ?_
            exact ih4 (k + 1) (none) (by omega) (by omega) (by simp only [erC, ← ho]; exact (if_neg (by omega)).symm) (fun f hf => by cases hf)
          · intro c47
            replace c47 := (not_congr (nI_leI (a := seS σ (k)) (b := 0) (by omega) (by omega))).mp c47
            refine g_iload_n C 0 dX11_earliest_50 rfl rfl rfl ?_
            refine g_if_eq C dX11_earliest_51 (tgt := 56) (by decide) (pc' := 54) rfl (fun c51 => absurd c51 (by decide)) (fun _ => ?_)
            refine g_iload_n C 1 dX11_earliest_54 rfl rfl rfl ?_
            refine g_istore_n C ([(1, .int (nI (k))), (3, .int (1)), (2, .int (nI (k))), (0, .ref (x))]) dX11_earliest_55 rfl (by decide) rfl rfl ?_
            refine g_iinc C (v := nI (k + 1)) 2 ([(2, .int (nI (k + 1))), (1, .int (nI (k))), (3, .int (1)), (0, .ref (x))]) dX11_earliest_56 rfl (nI_1 _) (by decide) rfl rfl ?_
            refine g_goto C dX11_earliest_59 (tgt := 4) (by decide) ?_
            refine q_lsub [0, 1, 3] (L' := [(2, .int (nI (k + 1))), (1, .int (nI (k))), (0, .ref (x))]) rfl ?_
            exact ih4 (k + 1) (some k) (by omega) (by omega) (by simp only [erC, ← ho]; exact (if_pos (by omega)).symm) (fun f hf => by cases hf; omega)
        · show qG X 0 0 z h 9 [(2, .int (nI (k))), (1, .int (nI (f))), (0, .ref (x))] []
          have hf5 := hf f rfl
          refine g_iload_n C 1 dX11_earliest_9 rfl rfl rfl ?_
          refine g_iconst C (v := -1) dX11_earliest_10 (by decide) rfl ?_
          refine g_icmp_eq C dX11_earliest_11 (tgt := 33) (by decide) (pc' := 14) rfl ?_ ?_
          · intro c11
            exact absurd c11 (nI_nm1 (by omega))
          · intro c11
            refine g_aload_n C 2 dX11_earliest_14 rfl rfl rfl ?_
            refine gf_11_41 C (hGa) (v := .ref (x + 40)) rfl dX11_earliest_15 rfl ?_
            refine g_iload_n C 0 dX11_earliest_18 rfl rfl rfl ?_
            refine g_callVi C (As := [.int (nI (k))]) (q := (RX0, TX0, 3)) (k_X0_wrongReadings l D b z hI13 hBk (y := k) (by omega)) hw_11_203 (hBk.1) rfl (by decide) rfl rfl (Nat.le_of_ble_eq_true rfl) ⟨Nat.zero_le _, Nat.zero_le _⟩ dX11_earliest_19 (pc' := 22) rfl ?_
            rintro r3 h9 ⟨er, e9⟩
            subst h9; subst er
            have hle3 : wrS σ (k) ≤ 12 := by first | exact wrongC_le _ _ _ _ _ | exact seenC_le _ _ _ _
            refine g_aload_n C 2 dX11_earliest_22 rfl rfl rfl ?_
            refine gf_11_41 C (hGa) (v := .ref (x + 40)) rfl dX11_earliest_23 rfl ?_
            refine g_iload_n C 1 dX11_earliest_26 rfl rfl rfl ?_
            refine g_callVi C (As := [.int (nI (f))]) (q := (RX0, TX0, 3)) (k_X0_wrongReadings l D b z hI13 hBk (y := f) (by omega)) hw_11_203 (hBk.1) rfl (by decide) rfl rfl (Nat.le_of_ble_eq_true rfl) ⟨Nat.zero_le _, Nat.zero_le _⟩ dX11_earliest_27 (pc' := 30) rfl ?_
            rintro r5 h9 ⟨er, e9⟩
            subst h9; subst er
            have hle5 : wrS σ (f) ≤ 12 := by first | exact wrongC_le _ _ _ _ _ | exact seenC_le _ _ _ _
            refine g_icmp_ge C dX11_earliest_30 (tgt := 37) (by decide) (pc' := 33) rfl ?_ ?_
            · intro c30
              replace c30 := (nI_leI (a := wrS σ (f)) (b := wrS σ (k)) (by omega) (by omega)).mp c30
              refine g_iconst C (v := 0) dX11_earliest_37 (by decide) rfl ?_
              refine g_istore_n C ([(3, .int (0)), (2, .int (nI (k))), (1, .int (nI (f))), (0, .ref (x))]) dX11_earliest_38 rfl (by decide) rfl rfl ?_
              refine g_aload_n C 3 dX11_earliest_39 rfl rfl rfl ?_
              refine gf_11_41 C (hGa) (v := .ref (x + 40)) rfl dX11_earliest_40 rfl ?_
              refine g_iload_n C 1 dX11_earliest_43 rfl rfl rfl ?_
              refine g_callVi C (As := [.int (nI (k))]) (q := (RX0, TX0, 3)) (k_X0_readingsSeen l D b z hI13 hBk (y := k) (by omega)) hw_11_206 (hBk.1) rfl (by decide) rfl rfl (Nat.le_of_ble_eq_true rfl) ⟨Nat.zero_le _, Nat.zero_le _⟩ dX11_earliest_44 (pc' := 47) rfl ?_
              rintro r7 h9 ⟨er, e9⟩
              subst h9; subst er
              have hle7 : seS σ (k) ≤ 12 := by first | exact wrongC_le _ _ _ _ _ | exact seenC_le _ _ _ _
              refine g_if_le C dX11_earliest_47 (tgt := 56) (by decide) (pc' := 50) rfl ?_ ?_
              · intro c47
                replace c47 := (nI_leI (a := seS σ (k)) (b := 0) (by omega) (by omega)).mp c47
                refine g_iinc C (v := nI (k + 1)) 1 ([(2, .int (nI (k + 1))), (3, .int (0)), (1, .int (nI (f))), (0, .ref (x))]) dX11_earliest_56 rfl (nI_1 _) (by decide) rfl rfl ?_
                refine g_goto C dX11_earliest_59 (tgt := 4) (by decide) ?_
                refine q_lsub [0, 2, 3] (L' := [(2, .int (nI (k + 1))), (1, .int (nI (f))), (0, .ref (x))]) rfl ?_
                exact ih4 (k + 1) (some f) (by omega) (by omega) (by simp only [erC, ← ho]; exact (if_neg (by omega)).symm) (fun f1 hf => by cases hf; omega)
              · intro c47
                replace c47 := (not_congr (nI_leI (a := seS σ (k)) (b := 0) (by omega) (by omega))).mp c47
                refine g_iload_n C 0 dX11_earliest_50 rfl rfl rfl ?_
                refine g_if_eq C dX11_earliest_51 (tgt := 56) (by decide) (pc' := 54) rfl (fun _ => ?_) (fun c51 => absurd (by decide) c51)
                refine g_iinc C (v := nI (k + 1)) 1 ([(2, .int (nI (k + 1))), (3, .int (0)), (1, .int (nI (f))), (0, .ref (x))]) dX11_earliest_56 rfl (nI_1 _) (by decide) rfl rfl ?_
                refine g_goto C dX11_earliest_59 (tgt := 4) (by decide) ?_
                refine q_lsub [0, 2, 3] (L' := [(2, .int (nI (k + 1))), (1, .int (nI (f))), (0, .ref (x))]) rfl ?_
                exact ih4 (k + 1) (some f) (by omega) (by omega) (by simp only [erC, ← ho]; exact (if_neg (by omega)).symm) (fun f1 hf => by cases hf; omega)
            · intro c30
              replace c30 := (not_congr (nI_leI (a := wrS σ (f)) (b := wrS σ (k)) (by omega) (by omega))).mp c30
              refine g_iconst C (v := 1) dX11_earliest_33 (by decide) rfl ?_
              refine g_goto C dX11_earliest_34 (tgt := 38) (by decide) ?_
              refine g_istore_n C ([(3, .int (1)), (2, .int (nI (k))), (1, .int (nI (f))), (0, .ref (x))]) dX11_earliest_38 rfl (by decide) rfl rfl ?_
              refine g_aload_n C 3 dX11_earliest_39 rfl rfl rfl ?_
              refine gf_11_41 C (hGa) (v := .ref (x + 40)) rfl dX11_earliest_40 rfl ?_
              refine g_iload_n C 1 dX11_earliest_43 rfl rfl rfl ?_
              refine g_callVi C (As := [.int (nI (k))]) (q := (RX0, TX0, 3)) (k_X0_readingsSeen l D b z hI13 hBk (y := k) (by omega)) hw_11_206 (hBk.1) rfl (by decide) rfl rfl (Nat.le_of_ble_eq_true rfl) ⟨Nat.zero_le _, Nat.zero_le _⟩ dX11_earliest_44 (pc' := 47) rfl ?_
              rintro r9 h9 ⟨er, e9⟩
              subst h9; subst er
              have hle9 : seS σ (k) ≤ 12 := by first | exact wrongC_le _ _ _ _ _ | exact seenC_le _ _ _ _
              refine g_if_le C dX11_earliest_47 (tgt := 56) (by decide) (pc' := 50) rfl ?_ ?_
              · intro c47
                replace c47 := (nI_leI (a := seS σ (k)) (b := 0) (by omega) (by omega)).mp c47
                refine g_iinc C (v := nI (k + 1)) 1 ([(2, .int (nI (k + 1))), (3, .int (1)), (1, .int (nI (f))), (0, .ref (x))]) dX11_earliest_56 rfl (nI_1 _) (by decide) rfl rfl ?_
                refine g_goto C dX11_earliest_59 (tgt := 4) (by decide) ?_
                refine q_lsub [0, 2, 3] (L' := [(2, .int (nI (k + 1))), (1, .int (nI (f))), (0, .ref (x))]) rfl ?_
                exact ih4 (k + 1) (some f) (by omega) (by omega) (by simp only [erC, ← ho]; exact (if_neg (by omega)).symm) (fun f1 hf => by cases hf; omega)
              · intro c47
                replace c47 := (not_congr (nI_leI (a := seS σ (k)) (b := 0) (by omega) (by omega))).mp c47
                refine g_iload_n C 0 dX11_earliest_50 rfl rfl rfl ?_
                refine g_if_eq C dX11_earliest_51 (tgt := 56) (by decide) (pc' := 54) rfl (fun c51 => absurd c51 (by decide)) (fun _ => ?_)
                refine g_iload_n C 1 dX11_earliest_54 rfl rfl rfl ?_
                refine g_istore_n C ([(1, .int (nI (k))), (3, .int (1)), (2, .int (nI (k))), (0, .ref (x))]) dX11_earliest_55 rfl (by decide) rfl rfl ?_
                refine g_iinc C (v := nI (k + 1)) 2 ([(2, .int (nI (k + 1))), (1, .int (nI (k))), (3, .int (1)), (0, .ref (x))]) dX11_earliest_56 rfl (nI_1 _) (by decide) rfl rfl ?_
                refine g_goto C dX11_earliest_59 (tgt := 4) (by decide) ?_
                refine q_lsub [0, 1, 3] (L' := [(2, .int (nI (k + 1))), (1, .int (nI (k))), (0, .ref (x))]) rfl ?_
                exact ih4 (k + 1) (some k) (by omega) (by omega) (by simp only [erC, ← ho]; exact (if_pos (by omega)).symm) (fun f hf => by cases hf; omega)
  exact loop4 _ (0) (none) (Nat.lt_succ_self _) (by omega) (rfl) (fun f hf => by cases hf)
set_option maxHeartbeats 4000000 in
set_option maxRecDepth 100000 in
theorem k_X11_countPeople (l : Launch) (D : va_G) (b z : Nat) {h : qH} {x : Nat} {σ : sg} (hC : Cls D h x σ) : qMi l D b yX11_countPeople cX11_countPeople 3 .int 0 0 [.ref (x)] h z (fun r h' => r = nI (gN σ 8) ∧ h' = h) := by
  refine q_i (L := [(0, .ref (x))]) (own := RX11) (by decide) rfl (Nat.le_of_ble_eq_true rfl) rfl ?_
  intro X C ret
  obtain ⟨hIn, hGa, hSt, hPg, hOl, hPe, hBk, hTr, hIm⟩ := id hC
  replace hGa : GaAt h x (nI (gN σ 1)) := hGa
  replace hSt : StAt D h (x + 1) (tnS σ) (nI (gN σ 3)) (nI (gN σ 4)) := hSt
  replace hPg : PgAt D h (x + 3) (gB σ 17) (nI (gN σ 16)) := hPg
  replace hBk : BkAt D h (x + 40) (gB σ 14) (gB σ 15) (nI (gN σ 13)) := hBk
  obtain ⟨hI0, hI3, hI03, hI4, hI6, hI8, hI13, hI16, hIt, hIk, hI1, hIim, hI25, hI26, hI08⟩ := id hIn
  have hOl1 := hOl.1.1
  obtain ⟨np, kd, co, lo, pa, hnpE, hkdE, hcoE, hloE, hpaE⟩ : ∃ np kd co lo pa, gN σ 8 = np ∧ gA σ 9 = kd ∧ gB σ 10 = co ∧ gB σ 11 = lo ∧ gB σ 12 = pa := ⟨_, _, _, _, _, rfl, rfl, rfl, rfl, rfl⟩
  obtain ⟨qa, hPe, hqx, hqj⟩ := hPe
  rw [hnpE, hkdE, hcoE, hloE, hpaE] at hPe
  rw [hnpE] at hqx hqj
  obtain ⟨hnp, ⟨pf, hpf, hpf1, hpf0⟩, hkp⟩ := hPe
  refine g_iconst C (v := 0) dX11_countPeople_0 (by decide) rfl ?_
  refine g_istore_n C ([(1, .int (0)), (0, .ref (x))]) dX11_countPeople_1 rfl (by decide) rfl rfl ?_
  refine g_iconst C (v := 0) dX11_countPeople_2 (by decide) rfl ?_
  refine g_istore_n C ([(2, .int (0)), (1, .int (0)), (0, .ref (x))]) dX11_countPeople_3 rfl (by decide) rfl rfl ?_
  have loop4 : ∀ (N : Nat) (i : Nat) (c : Nat), 4 - i < N → (i ≤ 4) → (c = min i np) → qG X 0 0 z h 4 [(2, .int (nI (i))), (1, .int (nI (c))), (0, .ref (x))] [] := by
    intro N
    induction N with
    | zero => intro i c hm; exact absurd hm (Nat.not_lt_zero _)
    | succ N ih4 =>
      intro i c hm hi hc
      refine g_iload_n C 0 dX11_countPeople_4 rfl rfl rfl ?_
      refine g_iconst C (v := 4) dX11_countPeople_5 (by decide) rfl ?_
      refine g_icmp_ge C dX11_countPeople_6 (tgt := 32) (by decide) (pc' := 9) rfl ?_ ?_
      · intro c6
        replace c6 := (nI_leI (a := 4) (b := i) (by omega) (by omega)).mp c6
        refine g_iload_n C 1 dX11_countPeople_32 rfl rfl rfl ?_
        exact ret _ _ _ _ dX11_countPeople_33 rfl (⟨by rw [hnpE, show c = np by omega], rfl⟩)
      · intro c6
        replace c6 := (not_congr (nI_leI (a := 4) (b := i) (by omega) (by omega))).mp c6
        rcases Nat.lt_or_ge i np with hin | hin
        · skip
          refine g_iload_n C 1 dX11_countPeople_9 rfl rfl rfl ?_
          refine g_aload_n C 2 dX11_countPeople_10 rfl rfl rfl ?_
          refine gf_11_34 C (hGa) (v := .ref (x + 39)) rfl dX11_countPeople_11 rfl ?_
          refine g_iload_n C 0 dX11_countPeople_14 rfl rfl rfl ?_
          refine g_aaldQ C (hpf) (j := i) rfl (by omega) (by decide) (hpf1 _ hin) dX11_countPeople_15 rfl ?_
          refine g_ifnonnull C dX11_countPeople_16 (tgt := 23) (by decide) ?_
          refine g_iconst C (v := 1) dX11_countPeople_23 (by decide) rfl ?_
          refine g_iadd C dX11_countPeople_24 rfl ?_
          refine g_topi (y := nI (c + 1)) (nI_1 c) ?_
          refine g_istore_n C ([(1, .int (nI (c + 1))), (2, .int (nI (i))), (0, .ref (x))]) dX11_countPeople_25 rfl (by decide) rfl rfl ?_
          refine g_iinc C (v := nI (i + 1)) 1 ([(2, .int (nI (i + 1))), (1, .int (nI (c + 1))), (0, .ref (x))]) dX11_countPeople_26 rfl (nI_1 _) (by decide) rfl rfl ?_
          refine g_goto C dX11_countPeople_29 (tgt := 4) (by decide) ?_
          exact ih4 (i + 1) (c + 1) (by omega) (by omega) (by omega)
        · skip
          refine g_iload_n C 1 dX11_countPeople_9 rfl rfl rfl ?_
          refine g_aload_n C 2 dX11_countPeople_10 rfl rfl rfl ?_
          refine gf_11_34 C (hGa) (v := .ref (x + 39)) rfl dX11_countPeople_11 rfl ?_
          refine g_iload_n C 0 dX11_countPeople_14 rfl rfl rfl ?_
          refine g_aaldQN C (hpf) (j := i) rfl (by omega) (by decide) (hpf0 _ hin (by omega)) dX11_countPeople_15 rfl ?_
          refine g_ifnonnullN C dX11_countPeople_16 rfl ?_
          refine g_iconst C (v := 0) dX11_countPeople_19 (by decide) rfl ?_
          refine g_goto C dX11_countPeople_20 (tgt := 24) (by decide) ?_
          refine g_iadd C dX11_countPeople_24 rfl ?_
          refine g_topi (y := nI c) (by first | rfl | exact (nI_add c 0).trans rfl | simp) ?_
          refine g_istore_n C ([(1, .int (nI c)), (2, .int (nI (i))), (0, .ref (x))]) dX11_countPeople_25 rfl (by decide) rfl rfl ?_
          refine g_iinc C (v := nI (i + 1)) 1 ([(2, .int (nI (i + 1))), (1, .int (nI c)), (0, .ref (x))]) dX11_countPeople_26 rfl (nI_1 _) (by decide) rfl rfl ?_
          refine g_goto C dX11_countPeople_29 (tgt := 4) (by decide) ?_
          exact ih4 (i + 1) (c) (by omega) (by omega) (by omega)
  exact loop4 _ (0) (0) (Nat.lt_succ_self _) (by omega) (by omega)
def paS (np : Nat) (pa : Nat → Int32) : Nat → Int32
  | 0 => 0
  | i + 1 => paS np pa i + (if i < np then pa i else 0)
set_option maxHeartbeats 4000000 in
set_option maxRecDepth 100000 in
theorem k_X11_paidByAll (l : Launch) (D : va_G) (b z : Nat) {h : qH} {x : Nat} {σ : sg} (hC : Cls D h x σ) : qMi l D b yX11_paidByAll cX11_paidByAll 4 .int 0 0 [.ref (x)] h z (fun r h' => r = paS (gN σ 8) (gB σ 12) 4 ∧ h' = h) := by
  refine q_i (L := [(0, .ref (x))]) (own := RX11) (by decide) rfl (Nat.le_of_ble_eq_true rfl) rfl ?_
  intro X C ret
  obtain ⟨hIn, hGa, hSt, hPg, hOl, hPe, hBk, hTr, hIm⟩ := id hC
  replace hGa : GaAt h x (nI (gN σ 1)) := hGa
  replace hSt : StAt D h (x + 1) (tnS σ) (nI (gN σ 3)) (nI (gN σ 4)) := hSt
  replace hPg : PgAt D h (x + 3) (gB σ 17) (nI (gN σ 16)) := hPg
  replace hBk : BkAt D h (x + 40) (gB σ 14) (gB σ 15) (nI (gN σ 13)) := hBk
  obtain ⟨hI0, hI3, hI03, hI4, hI6, hI8, hI13, hI16, hIt, hIk, hI1, hIim, hI25, hI26, hI08⟩ := id hIn
  have hOl1 := hOl.1.1
  obtain ⟨np, kd, co, lo, pa, hnpE, hkdE, hcoE, hloE, hpaE⟩ : ∃ np kd co lo pa, gN σ 8 = np ∧ gA σ 9 = kd ∧ gB σ 10 = co ∧ gB σ 11 = lo ∧ gB σ 12 = pa := ⟨_, _, _, _, _, rfl, rfl, rfl, rfl, rfl⟩
  obtain ⟨qa, hPe, hqx, hqj⟩ := hPe
  rw [hnpE, hkdE, hcoE, hloE, hpaE] at hPe
  rw [hnpE] at hqx hqj
  obtain ⟨hnp, ⟨pf, hpf, hpf1, hpf0⟩, hkp⟩ := hPe
  refine g_iconst C (v := 0) dX11_paidByAll_0 (by decide) rfl ?_
  refine g_istore_n C ([(1, .int (0)), (0, .ref (x))]) dX11_paidByAll_1 rfl (by decide) rfl rfl ?_
  refine g_iconst C (v := 0) dX11_paidByAll_2 (by decide) rfl ?_
  refine g_istore_n C ([(2, .int (0)), (1, .int (0)), (0, .ref (x))]) dX11_paidByAll_3 rfl (by decide) rfl rfl ?_
  have loop4 : ∀ (N : Nat) (i : Nat) (c : Int32), 4 - i < N → (i ≤ 4) → (c = paS np pa i) → qG X 0 0 z h 4 [(2, .int (nI (i))), (1, .int (c)), (0, .ref (x))] [] := by
    intro N
    induction N with
    | zero => intro i c hm; exact absurd hm (Nat.not_lt_zero _)
    | succ N ih4 =>
      intro i c hm hi hc
      refine g_iload_n C 0 dX11_paidByAll_4 rfl rfl rfl ?_
      refine g_iconst C (v := 4) dX11_paidByAll_5 (by decide) rfl ?_
      refine g_icmp_ge C dX11_paidByAll_6 (tgt := 37) (by decide) (pc' := 9) rfl ?_ ?_
      · intro c6
        replace c6 := (nI_leI (a := 4) (b := i) (by omega) (by omega)).mp c6
        refine g_iload_n C 1 dX11_paidByAll_37 rfl rfl rfl ?_
        exact ret _ _ _ _ dX11_paidByAll_38 rfl (⟨by rw [hnpE, hpaE, hc, show i = 4 by omega], rfl⟩)
      · intro c6
        replace c6 := (not_congr (nI_leI (a := 4) (b := i) (by omega) (by omega))).mp c6
        rcases Nat.lt_or_ge i np with hin | hin
        · skip
          obtain ⟨hkd, hKp⟩ := hkp i hin
          refine g_aload_n C 2 dX11_paidByAll_9 rfl rfl rfl ?_
          refine gf_11_34 C (hGa) (v := .ref (x + 39)) rfl dX11_paidByAll_10 rfl ?_
          refine g_iload_n C 0 dX11_paidByAll_13 rfl rfl rfl ?_
          refine g_aaldQ C (hpf) (j := i) rfl (by omega) (by decide) (hpf1 _ hin) dX11_paidByAll_14 rfl ?_
          refine g_astore_n C ([(3, .ref (qa i)), (2, .int (nI (i))), (1, .int (c)), (0, .ref (x))]) dX11_paidByAll_15 rfl (by decide) rfl rfl ?_
          refine g_iload_n C 2 dX11_paidByAll_16 rfl rfl rfl ?_
          refine g_aload_n C 0 dX11_paidByAll_17 rfl rfl rfl ?_
          refine g_ifnonnull C dX11_paidByAll_18 (tgt := 25) (by decide) ?_
          refine g_aload_n C 0 dX11_paidByAll_25 rfl rfl rfl ?_
          have JG26 : qG X 0 0 z h 29 [(3, .ref (qa i)), (2, .int (nI (i))), (1, .int (c)), (0, .ref (x))] [.int (pa i), .int (c)] := by
            refine g_iadd C dX11_paidByAll_29 rfl ?_
            refine g_istore_n C ([(1, .int ((c) + (pa i))), (3, .ref (qa i)), (2, .int (nI (i))), (0, .ref (x))]) dX11_paidByAll_30 rfl (by decide) rfl rfl ?_
            refine g_iinc C (v := nI (i + 1)) 2 ([(2, .int (nI (i + 1))), (1, .int ((c) + (pa i))), (3, .ref (qa i)), (0, .ref (x))]) dX11_paidByAll_31 rfl (nI_1 _) (by decide) rfl rfl ?_
            refine g_goto C dX11_paidByAll_34 (tgt := 4) (by decide) ?_
            refine q_lsub [0, 1, 3] (L' := [(2, .int (nI (i + 1))), (1, .int ((c) + (pa i))), (0, .ref (x))]) rfl ?_
            exact ih4 (i + 1) (c + pa i) (by omega) (by omega) (by simp only [paS]; rw [hc, if_pos hin])
          have hk5 : kd i = 0 ∨ kd i = 1 ∨ kd i = 2 ∨ kd i = 3 ∨ kd i = 4 := by have := hkd; omega
          rcases hk5 with hk | hk | hk | hk | hk
          · have hKp : KpAt h (qa i) 4 (co i) (lo i) (pa i) := by have g := hKp; rw [hk] at g; exact g
            exact gf_11_124_4 C hKp (v := .int (pa i)) rfl dX11_paidByAll_26 rfl JG26
          · have hKp : KpAt h (qa i) 2 (co i) (lo i) (pa i) := by have g := hKp; rw [hk] at g; exact g
            exact gf_11_124_2 C hKp (v := .int (pa i)) rfl dX11_paidByAll_26 rfl JG26
          · have hKp : KpAt h (qa i) 6 (co i) (lo i) (pa i) := by have g := hKp; rw [hk] at g; exact g
            exact gf_11_124_6 C hKp (v := .int (pa i)) rfl dX11_paidByAll_26 rfl JG26
          · have hKp : KpAt h (qa i) 1 (co i) (lo i) (pa i) := by have g := hKp; rw [hk] at g; exact g
            exact gf_11_124_1 C hKp (v := .int (pa i)) rfl dX11_paidByAll_26 rfl JG26
          · have hKp : KpAt h (qa i) 5 (co i) (lo i) (pa i) := by have g := hKp; rw [hk] at g; exact g
            exact gf_11_124_5 C hKp (v := .int (pa i)) rfl dX11_paidByAll_26 rfl JG26
        · skip
          refine g_aload_n C 2 dX11_paidByAll_9 rfl rfl rfl ?_
          refine gf_11_34 C (hGa) (v := .ref (x + 39)) rfl dX11_paidByAll_10 rfl ?_
          refine g_iload_n C 0 dX11_paidByAll_13 rfl rfl rfl ?_
          refine g_aaldQN C (hpf) (j := i) rfl (by omega) (by decide) (hpf0 _ hin (by omega)) dX11_paidByAll_14 rfl ?_
          refine g_astore_nN C ([(3, .null), (2, .int (nI (i))), (1, .int (c)), (0, .ref (x))]) dX11_paidByAll_15 rfl (by decide) rfl rfl ?_
          refine g_iload_n C 2 dX11_paidByAll_16 rfl rfl rfl ?_
          refine g_aload_nN C 0 dX11_paidByAll_17 rfl rfl rfl ?_
          refine g_ifnonnullN C dX11_paidByAll_18 rfl ?_
          refine g_iconst C (v := 0) dX11_paidByAll_21 (by decide) rfl ?_
          refine g_goto C dX11_paidByAll_22 (tgt := 29) (by decide) ?_
          refine g_iadd C dX11_paidByAll_29 rfl ?_
          refine g_istore_n C ([(1, .int ((c) + (0))), (3, .null), (2, .int (nI (i))), (0, .ref (x))]) dX11_paidByAll_30 rfl (by decide) rfl rfl ?_
          refine g_iinc C (v := nI (i + 1)) 2 ([(2, .int (nI (i + 1))), (1, .int ((c) + (0))), (3, .null), (0, .ref (x))]) dX11_paidByAll_31 rfl (nI_1 _) (by decide) rfl rfl ?_
          refine g_goto C dX11_paidByAll_34 (tgt := 4) (by decide) ?_
          refine q_lsub [0, 1, 3] (L' := [(2, .int (nI (i + 1))), (1, .int ((c) + (0))), (0, .ref (x))]) rfl ?_
          exact ih4 (i + 1) (c + 0) (by omega) (by omega) (by simp only [paS]; rw [hc, if_neg (Nat.not_lt.mpr hin)])
  exact loop4 _ (0) (0) (Nat.lt_succ_self _) (by omega) (rfl)
def isPe (σ : sg) (v : Int32) : Prop := ∃ i, v = nI i ∧ i < gN σ 8
theorem nI_nneg {f : Nat} (h : f < 2 ^ 31) : ¬ nI f < 0 := (inP0_to (hi := f) h ⟨f, rfl, Nat.zero_le _, Nat.le_refl _⟩).1
theorem nI_lt4 {f : Nat} (h : f < 4) : ¬ nI 4 ≤ nI f := fun g => by have := (nI_leI (by decide) (by omega)).mp g; omega
set_option maxHeartbeats 4000000 in
set_option maxRecDepth 100000 in
theorem k_X11_personOf (l : Launch) (D : va_G) (b z : Nat) {h : qH} {x : Nat} {σ : sg} (hC : Cls D h x σ) (v : Int32) {np : Nat} {qa : Nat → Nat} {pf : Nat → Option Nat} (hnpE : gN σ 8 = np) (hnp : np ≤ 4) (hpf : h (x + 39) = some (cQ D 4 pf)) (hpf1 : ∀ i, i < np → pf i = some (qa i)) (hpf0 : ∀ i, np ≤ i → i < 4 → pf i = none) : qMq l D b yX11_personOf cX11_personOf 2 (.object "EarlyGauge$Keeper") 0 0 [.ref (x), .int (v)] h z (fun r h' => ((∃ i, v = nI i ∧ i < np ∧ r = some (qa i)) ∨ (¬ isPe σ v ∧ r = none)) ∧ h' = h) := by
  refine q_q (L := [(0, .ref (x)), (1, .int (v))]) (own := RX11) (by decide) rfl (Nat.le_of_ble_eq_true rfl) rfl (by exact Or.inl ⟨_, rfl⟩) ?_
  intro X C ret
  obtain ⟨hIn, hGa, hSt, hPg, hOl, hPe, hBk, hTr, hIm⟩ := id hC
  replace hGa : GaAt h x (nI (gN σ 1)) := hGa
  replace hSt : StAt D h (x + 1) (tnS σ) (nI (gN σ 3)) (nI (gN σ 4)) := hSt
  replace hPg : PgAt D h (x + 3) (gB σ 17) (nI (gN σ 16)) := hPg
  replace hBk : BkAt D h (x + 40) (gB σ 14) (gB σ 15) (nI (gN σ 13)) := hBk
  obtain ⟨hI0, hI3, hI03, hI4, hI6, hI8, hI13, hI16, hIt, hIk, hI1, hIim, hI25, hI26, hI08⟩ := id hIn
  have hOl1 := hOl.1.1
  refine g_iload_n C 1 dX11_personOf_0 rfl rfl rfl ?_
  refine g_if_lt C dX11_personOf_1 (tgt := 18) (by decide) (pc' := 4) rfl ?_ ?_
  · intro c1
    refine g_null C dX11_personOf_18 rfl ?_
    exact ret _ (none) _ _ dX11_personOf_19 (⟨Or.inr ⟨fun g => by obtain ⟨i, rfl, hi⟩ := g; exact nI_nneg (by omega) c1, rfl⟩, rfl⟩)
  · intro c1
    refine g_iload_n C 1 dX11_personOf_4 rfl rfl rfl ?_
    refine g_iconst C (v := 4) dX11_personOf_5 (by decide) rfl ?_
    refine g_icmp_ge C dX11_personOf_6 (tgt := 18) (by decide) (pc' := 9) rfl ?_ ?_
    · intro c6
      refine g_null C dX11_personOf_18 rfl ?_
      exact ret _ (none) _ _ dX11_personOf_19 (⟨Or.inr ⟨fun g => by obtain ⟨i, rfl, hi⟩ := g; exact nI_lt4 (by omega) c6, rfl⟩, rfl⟩)
    · intro c6
      obtain ⟨i, hi4, rfl⟩ := nat_of_lt (M := 4) (by decide) c1 c6
      rcases Nat.lt_or_ge i np with hin | hin
      · skip
        refine g_aload_n C 0 dX11_personOf_9 rfl rfl rfl ?_
        refine gf_11_34 C (hGa) (v := .ref (x + 39)) rfl dX11_personOf_10 rfl ?_
        refine g_iload_n C 1 dX11_personOf_13 rfl rfl rfl ?_
        refine g_aaldQ C (hpf) (j := i) rfl (by omega) (by decide) (hpf1 _ hin) dX11_personOf_14 rfl ?_
        refine g_goto C dX11_personOf_15 (tgt := 19) (by decide) ?_
        exact ret _ (some (qa i)) _ _ dX11_personOf_19 (⟨Or.inl ⟨i, rfl, by omega, rfl⟩, rfl⟩)
      · skip
        refine g_aload_n C 0 dX11_personOf_9 rfl rfl rfl ?_
        refine gf_11_34 C (hGa) (v := .ref (x + 39)) rfl dX11_personOf_10 rfl ?_
        refine g_iload_n C 1 dX11_personOf_13 rfl rfl rfl ?_
        refine g_aaldQN C (hpf) (j := i) rfl (by omega) (by decide) (hpf0 _ hin (by omega)) dX11_personOf_14 rfl ?_
        refine g_goto C dX11_personOf_15 (tgt := 19) (by decide) ?_
        exact ret _ (none) _ _ dX11_personOf_19 (⟨Or.inr ⟨fun g => by obtain ⟨j, e, hj⟩ := g; have := nIinj (by omega) (by omega) e; omega, rfl⟩, rfl⟩)
def isKd (kd : Nat) (v : Int32) : Prop := v = 0 ∨ v = nI kd ∨ (v = 3 ∧ kd = 4)
theorem in04 {v : Int32} (h : inP 0 4 v) : v = 0 ∨ v = 1 ∨ v = 2 ∨ v = 3 ∨ v = 4 := by
  obtain ⟨k, rfl, -, hk⟩ := h
  have : k = 0 ∨ k = 1 ∨ k = 2 ∨ k = 3 ∨ k = 4 := by omega
  rcases this with rfl | rfl | rfl | rfl | rfl <;> decide
set_option maxHeartbeats 4000000 in
set_option maxRecDepth 100000 in
theorem k0_X11_isOfKind (l : Launch) (D : va_G) (b z : Nat) {h : qH} {q : Nat} {c t p : Int32} (hKp : KpAt h q 4 c t p) (v : Int32) (hv : inP 0 4 v) : qMi l D b yX11_isOfKind cX11_isOfKind 2 .boolean 0 0 [.ref (q), .int (v)] h z (fun r h' => ((r = 1 ∧ isKd 0 v) ∨ (r = 0 ∧ ¬ isKd 0 v)) ∧ h' = h) := by
  refine q_i (L := [(0, .ref (q)), (1, .int (v))]) (own := RX11) (by decide) rfl (Nat.le_of_ble_eq_true rfl) rfl ?_
  intro X C ret
  refine g_iload_n C 1 dX11_isOfKind_0 rfl rfl rfl ?_
  by_cases c1_0 : (v) = 0
  · refine g_tableIn C dX11_isOfKind_1 (off := 31) (tgt := 32) (by rw [c1_0]; decide) (by rw [c1_0]; decide) (by rw [c1_0]; decide) (by decide) ?_
    refine g_iconst C (v := 1) dX11_isOfKind_32 (by decide) rfl ?_
    exact ret _ _ _ _ dX11_isOfKind_33 rfl (⟨Or.inl ⟨rfl, by unfold isKd; rw [c1_0]; decide⟩, rfl⟩)
  by_cases c1_1 : (v) = 1
  · refine g_tableIn C dX11_isOfKind_1 (off := 33) (tgt := 34) (by rw [c1_1]; decide) (by rw [c1_1]; decide) (by rw [c1_1]; decide) (by decide) ?_
    refine g_aload_n C 0 dX11_isOfKind_34 rfl rfl rfl ?_
    refine g_instN C (q := (RX4, TX4, 3)) (nm := "EarlyGauge$Farmer") (AW_m 425 (by decide +kernel) rfl) (by decide +kernel) (hKp) rfl dX11_isOfKind_35 rfl ?_
    exact ret _ _ _ _ dX11_isOfKind_38 rfl (⟨Or.inr ⟨rfl, by unfold isKd; rw [c1_1]; decide⟩, rfl⟩)
  by_cases c1_2 : (v) = 2
  · refine g_tableIn C dX11_isOfKind_1 (off := 38) (tgt := 39) (by rw [c1_2]; decide) (by rw [c1_2]; decide) (by rw [c1_2]; decide) (by decide) ?_
    refine g_aload_n C 0 dX11_isOfKind_39 rfl rfl rfl ?_
    refine g_instN C (q := (RX4, TX4, 3)) (nm := "EarlyGauge$Miser") (AW_m 450 (by decide +kernel) rfl) (by decide +kernel) (hKp) rfl dX11_isOfKind_40 rfl ?_
    exact ret _ _ _ _ dX11_isOfKind_43 rfl (⟨Or.inr ⟨rfl, by unfold isKd; rw [c1_2]; decide⟩, rfl⟩)
  by_cases c1_3 : (v) = 3
  · refine g_tableIn C dX11_isOfKind_1 (off := 43) (tgt := 44) (by rw [c1_3]; decide) (by rw [c1_3]; decide) (by rw [c1_3]; decide) (by decide) ?_
    refine g_aload_n C 0 dX11_isOfKind_44 rfl rfl rfl ?_
    refine g_instN C (q := (RX4, TX4, 3)) (nm := "EarlyGauge$Contrary") (AW_m 460 (by decide +kernel) rfl) (by decide +kernel) (hKp) rfl dX11_isOfKind_45 rfl ?_
    exact ret _ _ _ _ dX11_isOfKind_48 rfl (⟨Or.inr ⟨rfl, by unfold isKd; rw [c1_3]; decide⟩, rfl⟩)
  refine g_tableOut C dX11_isOfKind_1 (tgt := 49) (swo_0_3 c1_0 c1_1 c1_2 c1_3) (by decide) ?_
  refine g_aload_n C 0 dX11_isOfKind_49 rfl rfl rfl ?_
  refine g_instN C (q := (RX4, TX4, 3)) (nm := "EarlyGauge$Knees") (AW_m 469 (by decide +kernel) rfl) (by decide +kernel) (hKp) rfl dX11_isOfKind_50 rfl ?_
  have e4 : v = 4 := by rcases in04 hv with g | g | g | g | g; exact absurd g c1_0; exact absurd g c1_1; exact absurd g c1_2; exact absurd g c1_3; exact g
  exact ret _ _ _ _ dX11_isOfKind_53 rfl (⟨Or.inr ⟨rfl, by unfold isKd; rw [e4]; decide⟩, rfl⟩)
set_option maxHeartbeats 4000000 in
set_option maxRecDepth 100000 in
theorem k1_X11_isOfKind (l : Launch) (D : va_G) (b z : Nat) {h : qH} {q : Nat} {c t p : Int32} (hKp : KpAt h q 2 c t p) (v : Int32) (hv : inP 0 4 v) : qMi l D b yX11_isOfKind cX11_isOfKind 2 .boolean 0 0 [.ref (q), .int (v)] h z (fun r h' => ((r = 1 ∧ isKd 1 v) ∨ (r = 0 ∧ ¬ isKd 1 v)) ∧ h' = h) := by
  refine q_i (L := [(0, .ref (q)), (1, .int (v))]) (own := RX11) (by decide) rfl (Nat.le_of_ble_eq_true rfl) rfl ?_
  intro X C ret
  refine g_iload_n C 1 dX11_isOfKind_0 rfl rfl rfl ?_
  by_cases c1_0 : (v) = 0
  · refine g_tableIn C dX11_isOfKind_1 (off := 31) (tgt := 32) (by rw [c1_0]; decide) (by rw [c1_0]; decide) (by rw [c1_0]; decide) (by decide) ?_
    refine g_iconst C (v := 1) dX11_isOfKind_32 (by decide) rfl ?_
    exact ret _ _ _ _ dX11_isOfKind_33 rfl (⟨Or.inl ⟨rfl, by unfold isKd; rw [c1_0]; decide⟩, rfl⟩)
  by_cases c1_1 : (v) = 1
  · refine g_tableIn C dX11_isOfKind_1 (off := 33) (tgt := 34) (by rw [c1_1]; decide) (by rw [c1_1]; decide) (by rw [c1_1]; decide) (by decide) ?_
    refine g_aload_n C 0 dX11_isOfKind_34 rfl rfl rfl ?_
    refine g_instS C (q := (RX2, TX2, 3)) (AW_m 425 (by decide +kernel) rfl) (hKp) rfl dX11_isOfKind_35 rfl ?_
    exact ret _ _ _ _ dX11_isOfKind_38 rfl (⟨Or.inl ⟨rfl, by unfold isKd; rw [c1_1]; decide⟩, rfl⟩)
  by_cases c1_2 : (v) = 2
  · refine g_tableIn C dX11_isOfKind_1 (off := 38) (tgt := 39) (by rw [c1_2]; decide) (by rw [c1_2]; decide) (by rw [c1_2]; decide) (by decide) ?_
    refine g_aload_n C 0 dX11_isOfKind_39 rfl rfl rfl ?_
    refine g_instN C (q := (RX2, TX2, 3)) (nm := "EarlyGauge$Miser") (AW_m 450 (by decide +kernel) rfl) (by decide +kernel) (hKp) rfl dX11_isOfKind_40 rfl ?_
    exact ret _ _ _ _ dX11_isOfKind_43 rfl (⟨Or.inr ⟨rfl, by unfold isKd; rw [c1_2]; decide⟩, rfl⟩)
  by_cases c1_3 : (v) = 3
  · refine g_tableIn C dX11_isOfKind_1 (off := 43) (tgt := 44) (by rw [c1_3]; decide) (by rw [c1_3]; decide) (by rw [c1_3]; decide) (by decide) ?_
    refine g_aload_n C 0 dX11_isOfKind_44 rfl rfl rfl ?_
    refine g_instN C (q := (RX2, TX2, 3)) (nm := "EarlyGauge$Contrary") (AW_m 460 (by decide +kernel) rfl) (by decide +kernel) (hKp) rfl dX11_isOfKind_45 rfl ?_
    exact ret _ _ _ _ dX11_isOfKind_48 rfl (⟨Or.inr ⟨rfl, by unfold isKd; rw [c1_3]; decide⟩, rfl⟩)
  refine g_tableOut C dX11_isOfKind_1 (tgt := 49) (swo_0_3 c1_0 c1_1 c1_2 c1_3) (by decide) ?_
  refine g_aload_n C 0 dX11_isOfKind_49 rfl rfl rfl ?_
  refine g_instN C (q := (RX2, TX2, 3)) (nm := "EarlyGauge$Knees") (AW_m 469 (by decide +kernel) rfl) (by decide +kernel) (hKp) rfl dX11_isOfKind_50 rfl ?_
  have e4 : v = 4 := by rcases in04 hv with g | g | g | g | g; exact absurd g c1_0; exact absurd g c1_1; exact absurd g c1_2; exact absurd g c1_3; exact g
  exact ret _ _ _ _ dX11_isOfKind_53 rfl (⟨Or.inr ⟨rfl, by unfold isKd; rw [e4]; decide⟩, rfl⟩)
set_option maxHeartbeats 4000000 in
set_option maxRecDepth 100000 in
theorem k2_X11_isOfKind (l : Launch) (D : va_G) (b z : Nat) {h : qH} {q : Nat} {c t p : Int32} (hKp : KpAt h q 6 c t p) (v : Int32) (hv : inP 0 4 v) : qMi l D b yX11_isOfKind cX11_isOfKind 2 .boolean 0 0 [.ref (q), .int (v)] h z (fun r h' => ((r = 1 ∧ isKd 2 v) ∨ (r = 0 ∧ ¬ isKd 2 v)) ∧ h' = h) := by
  refine q_i (L := [(0, .ref (q)), (1, .int (v))]) (own := RX11) (by decide) rfl (Nat.le_of_ble_eq_true rfl) rfl ?_
  intro X C ret
  refine g_iload_n C 1 dX11_isOfKind_0 rfl rfl rfl ?_
  by_cases c1_0 : (v) = 0
  · refine g_tableIn C dX11_isOfKind_1 (off := 31) (tgt := 32) (by rw [c1_0]; decide) (by rw [c1_0]; decide) (by rw [c1_0]; decide) (by decide) ?_
    refine g_iconst C (v := 1) dX11_isOfKind_32 (by decide) rfl ?_
    exact ret _ _ _ _ dX11_isOfKind_33 rfl (⟨Or.inl ⟨rfl, by unfold isKd; rw [c1_0]; decide⟩, rfl⟩)
  by_cases c1_1 : (v) = 1
  · refine g_tableIn C dX11_isOfKind_1 (off := 33) (tgt := 34) (by rw [c1_1]; decide) (by rw [c1_1]; decide) (by rw [c1_1]; decide) (by decide) ?_
    refine g_aload_n C 0 dX11_isOfKind_34 rfl rfl rfl ?_
    refine g_instN C (q := (RX6, TX6, 3)) (nm := "EarlyGauge$Farmer") (AW_m 425 (by decide +kernel) rfl) (by decide +kernel) (hKp) rfl dX11_isOfKind_35 rfl ?_
    exact ret _ _ _ _ dX11_isOfKind_38 rfl (⟨Or.inr ⟨rfl, by unfold isKd; rw [c1_1]; decide⟩, rfl⟩)
  by_cases c1_2 : (v) = 2
  · refine g_tableIn C dX11_isOfKind_1 (off := 38) (tgt := 39) (by rw [c1_2]; decide) (by rw [c1_2]; decide) (by rw [c1_2]; decide) (by decide) ?_
    refine g_aload_n C 0 dX11_isOfKind_39 rfl rfl rfl ?_
    refine g_instS C (q := (RX6, TX6, 3)) (AW_m 450 (by decide +kernel) rfl) (hKp) rfl dX11_isOfKind_40 rfl ?_
    exact ret _ _ _ _ dX11_isOfKind_43 rfl (⟨Or.inl ⟨rfl, by unfold isKd; rw [c1_2]; decide⟩, rfl⟩)
  by_cases c1_3 : (v) = 3
  · refine g_tableIn C dX11_isOfKind_1 (off := 43) (tgt := 44) (by rw [c1_3]; decide) (by rw [c1_3]; decide) (by rw [c1_3]; decide) (by decide) ?_
    refine g_aload_n C 0 dX11_isOfKind_44 rfl rfl rfl ?_
    refine g_instN C (q := (RX6, TX6, 3)) (nm := "EarlyGauge$Contrary") (AW_m 460 (by decide +kernel) rfl) (by decide +kernel) (hKp) rfl dX11_isOfKind_45 rfl ?_
    exact ret _ _ _ _ dX11_isOfKind_48 rfl (⟨Or.inr ⟨rfl, by unfold isKd; rw [c1_3]; decide⟩, rfl⟩)
  refine g_tableOut C dX11_isOfKind_1 (tgt := 49) (swo_0_3 c1_0 c1_1 c1_2 c1_3) (by decide) ?_
  refine g_aload_n C 0 dX11_isOfKind_49 rfl rfl rfl ?_
  refine g_instN C (q := (RX6, TX6, 3)) (nm := "EarlyGauge$Knees") (AW_m 469 (by decide +kernel) rfl) (by decide +kernel) (hKp) rfl dX11_isOfKind_50 rfl ?_
  have e4 : v = 4 := by rcases in04 hv with g | g | g | g | g; exact absurd g c1_0; exact absurd g c1_1; exact absurd g c1_2; exact absurd g c1_3; exact g
  exact ret _ _ _ _ dX11_isOfKind_53 rfl (⟨Or.inr ⟨rfl, by unfold isKd; rw [e4]; decide⟩, rfl⟩)
set_option maxHeartbeats 4000000 in
set_option maxRecDepth 100000 in
theorem k3_X11_isOfKind (l : Launch) (D : va_G) (b z : Nat) {h : qH} {q : Nat} {c t p : Int32} (hKp : KpAt h q 1 c t p) (v : Int32) (hv : inP 0 4 v) : qMi l D b yX11_isOfKind cX11_isOfKind 2 .boolean 0 0 [.ref (q), .int (v)] h z (fun r h' => ((r = 1 ∧ isKd 3 v) ∨ (r = 0 ∧ ¬ isKd 3 v)) ∧ h' = h) := by
  refine q_i (L := [(0, .ref (q)), (1, .int (v))]) (own := RX11) (by decide) rfl (Nat.le_of_ble_eq_true rfl) rfl ?_
  intro X C ret
  refine g_iload_n C 1 dX11_isOfKind_0 rfl rfl rfl ?_
  by_cases c1_0 : (v) = 0
  · refine g_tableIn C dX11_isOfKind_1 (off := 31) (tgt := 32) (by rw [c1_0]; decide) (by rw [c1_0]; decide) (by rw [c1_0]; decide) (by decide) ?_
    refine g_iconst C (v := 1) dX11_isOfKind_32 (by decide) rfl ?_
    exact ret _ _ _ _ dX11_isOfKind_33 rfl (⟨Or.inl ⟨rfl, by unfold isKd; rw [c1_0]; decide⟩, rfl⟩)
  by_cases c1_1 : (v) = 1
  · refine g_tableIn C dX11_isOfKind_1 (off := 33) (tgt := 34) (by rw [c1_1]; decide) (by rw [c1_1]; decide) (by rw [c1_1]; decide) (by decide) ?_
    refine g_aload_n C 0 dX11_isOfKind_34 rfl rfl rfl ?_
    refine g_instN C (q := (RX1, TX1, 3)) (nm := "EarlyGauge$Farmer") (AW_m 425 (by decide +kernel) rfl) (by decide +kernel) (hKp) rfl dX11_isOfKind_35 rfl ?_
    exact ret _ _ _ _ dX11_isOfKind_38 rfl (⟨Or.inr ⟨rfl, by unfold isKd; rw [c1_1]; decide⟩, rfl⟩)
  by_cases c1_2 : (v) = 2
  · refine g_tableIn C dX11_isOfKind_1 (off := 38) (tgt := 39) (by rw [c1_2]; decide) (by rw [c1_2]; decide) (by rw [c1_2]; decide) (by decide) ?_
    refine g_aload_n C 0 dX11_isOfKind_39 rfl rfl rfl ?_
    refine g_instN C (q := (RX1, TX1, 3)) (nm := "EarlyGauge$Miser") (AW_m 450 (by decide +kernel) rfl) (by decide +kernel) (hKp) rfl dX11_isOfKind_40 rfl ?_
    exact ret _ _ _ _ dX11_isOfKind_43 rfl (⟨Or.inr ⟨rfl, by unfold isKd; rw [c1_2]; decide⟩, rfl⟩)
  by_cases c1_3 : (v) = 3
  · refine g_tableIn C dX11_isOfKind_1 (off := 43) (tgt := 44) (by rw [c1_3]; decide) (by rw [c1_3]; decide) (by rw [c1_3]; decide) (by decide) ?_
    refine g_aload_n C 0 dX11_isOfKind_44 rfl rfl rfl ?_
    refine g_instS C (q := (RX1, TX1, 3)) (AW_m 460 (by decide +kernel) rfl) (hKp) rfl dX11_isOfKind_45 rfl ?_
    exact ret _ _ _ _ dX11_isOfKind_48 rfl (⟨Or.inl ⟨rfl, by unfold isKd; rw [c1_3]; decide⟩, rfl⟩)
  refine g_tableOut C dX11_isOfKind_1 (tgt := 49) (swo_0_3 c1_0 c1_1 c1_2 c1_3) (by decide) ?_
  refine g_aload_n C 0 dX11_isOfKind_49 rfl rfl rfl ?_
  refine g_instN C (q := (RX1, TX1, 3)) (nm := "EarlyGauge$Knees") (AW_m 469 (by decide +kernel) rfl) (by decide +kernel) (hKp) rfl dX11_isOfKind_50 rfl ?_
  have e4 : v = 4 := by rcases in04 hv with g | g | g | g | g; exact absurd g c1_0; exact absurd g c1_1; exact absurd g c1_2; exact absurd g c1_3; exact g
  exact ret _ _ _ _ dX11_isOfKind_53 rfl (⟨Or.inr ⟨rfl, by unfold isKd; rw [e4]; decide⟩, rfl⟩)
set_option maxHeartbeats 4000000 in
set_option maxRecDepth 100000 in
theorem k4_X11_isOfKind (l : Launch) (D : va_G) (b z : Nat) {h : qH} {q : Nat} {c t p : Int32} (hKp : KpAt h q 5 c t p) (v : Int32) (hv : inP 0 4 v) : qMi l D b yX11_isOfKind cX11_isOfKind 2 .boolean 0 0 [.ref (q), .int (v)] h z (fun r h' => ((r = 1 ∧ isKd 4 v) ∨ (r = 0 ∧ ¬ isKd 4 v)) ∧ h' = h) := by
  refine q_i (L := [(0, .ref (q)), (1, .int (v))]) (own := RX11) (by decide) rfl (Nat.le_of_ble_eq_true rfl) rfl ?_
  intro X C ret
  refine g_iload_n C 1 dX11_isOfKind_0 rfl rfl rfl ?_
  by_cases c1_0 : (v) = 0
  · refine g_tableIn C dX11_isOfKind_1 (off := 31) (tgt := 32) (by rw [c1_0]; decide) (by rw [c1_0]; decide) (by rw [c1_0]; decide) (by decide) ?_
    refine g_iconst C (v := 1) dX11_isOfKind_32 (by decide) rfl ?_
    exact ret _ _ _ _ dX11_isOfKind_33 rfl (⟨Or.inl ⟨rfl, by unfold isKd; rw [c1_0]; decide⟩, rfl⟩)
  by_cases c1_1 : (v) = 1
  · refine g_tableIn C dX11_isOfKind_1 (off := 33) (tgt := 34) (by rw [c1_1]; decide) (by rw [c1_1]; decide) (by rw [c1_1]; decide) (by decide) ?_
    refine g_aload_n C 0 dX11_isOfKind_34 rfl rfl rfl ?_
    refine g_instN C (q := (RX5, TX5, 3)) (nm := "EarlyGauge$Farmer") (AW_m 425 (by decide +kernel) rfl) (by decide +kernel) (hKp) rfl dX11_isOfKind_35 rfl ?_
    exact ret _ _ _ _ dX11_isOfKind_38 rfl (⟨Or.inr ⟨rfl, by unfold isKd; rw [c1_1]; decide⟩, rfl⟩)
  by_cases c1_2 : (v) = 2
  · refine g_tableIn C dX11_isOfKind_1 (off := 38) (tgt := 39) (by rw [c1_2]; decide) (by rw [c1_2]; decide) (by rw [c1_2]; decide) (by decide) ?_
    refine g_aload_n C 0 dX11_isOfKind_39 rfl rfl rfl ?_
    refine g_instN C (q := (RX5, TX5, 3)) (nm := "EarlyGauge$Miser") (AW_m 450 (by decide +kernel) rfl) (by decide +kernel) (hKp) rfl dX11_isOfKind_40 rfl ?_
    exact ret _ _ _ _ dX11_isOfKind_43 rfl (⟨Or.inr ⟨rfl, by unfold isKd; rw [c1_2]; decide⟩, rfl⟩)
  by_cases c1_3 : (v) = 3
  · refine g_tableIn C dX11_isOfKind_1 (off := 43) (tgt := 44) (by rw [c1_3]; decide) (by rw [c1_3]; decide) (by rw [c1_3]; decide) (by decide) ?_
    refine g_aload_n C 0 dX11_isOfKind_44 rfl rfl rfl ?_
    refine g_instY C (q := (RX5, TX5, 3)) (nm := "EarlyGauge$Contrary") (AW_m 460 (by decide +kernel) rfl) (by decide +kernel) (hKp) rfl dX11_isOfKind_45 rfl ?_
    exact ret _ _ _ _ dX11_isOfKind_48 rfl (⟨Or.inl ⟨rfl, by unfold isKd; rw [c1_3]; decide⟩, rfl⟩)
  refine g_tableOut C dX11_isOfKind_1 (tgt := 49) (swo_0_3 c1_0 c1_1 c1_2 c1_3) (by decide) ?_
  refine g_aload_n C 0 dX11_isOfKind_49 rfl rfl rfl ?_
  refine g_instS C (q := (RX5, TX5, 3)) (AW_m 469 (by decide +kernel) rfl) (hKp) rfl dX11_isOfKind_50 rfl ?_
  have e4 : v = 4 := by rcases in04 hv with g | g | g | g | g; exact absurd g c1_0; exact absurd g c1_1; exact absurd g c1_2; exact absurd g c1_3; exact g
  exact ret _ _ _ _ dX11_isOfKind_53 rfl (⟨Or.inl ⟨rfl, by unfold isKd; rw [e4]; decide⟩, rfl⟩)
noncomputable def cAs (σ : sg) (v k : Int32) : Int32 := cIf (isPe σ v) (cIf (inP 0 4 k) (cIf (isKd (gA σ 9 v.toNatClampNeg) k) v (-1)) (-102)) (-101)
def covS (σ : sg) (i : Nat) : Prop := covQ (gA σ 9 i) (gB σ 7) (stS σ) (gN σ 6) (gB σ 10 i) (gB σ 11 i)
noncomputable def cAbout (σ : sg) (v w : Int32) : Int32 := cIf (isPe σ v) (if w = 0 then nI (gA σ 9 v.toNatClampNeg) else if w = 1 then gB σ 10 v.toNatClampNeg else if w = 2 then gB σ 11 v.toNatClampNeg else if w = 3 then gB σ 12 v.toNatClampNeg else if w = 4 then cIf (covS σ v.toNatClampNeg) 1 0 else -102) (-101)
theorem inP4_lt {k : Int32} (g : inP 0 4 k) : k < 5 := by rcases in04 g with rfl | rfl | rfl | rfl | rfl <;> decide
theorem in5_of {k : Int32} (h0 : ¬ k < 0) (h1 : k < 5) : inP 0 4 k := by
  obtain ⟨j, hj, rfl⟩ := nI_of h0
  exact ⟨j, rfl, Nat.zero_le _, by have := (nI_ltI (a := j) (b := 5) hj (by decide)).mp h1; omega⟩
theorem hpk_t {r : Int32} {P : Prop} (h : (r = 1 ∧ P) ∨ (r = 0 ∧ ¬ P)) (c : ¬ r = 0) : P := by rcases h with ⟨-, p⟩ | ⟨e, -⟩; exact p; exact absurd e c
theorem hpk_f {r : Int32} {P : Prop} (h : (r = 1 ∧ P) ∨ (r = 0 ∧ ¬ P)) (c : r = 0) : ¬ P := by rcases h with ⟨e, -⟩ | ⟨-, p⟩; rw [e] at c; exact absurd c (by decide); exact p
set_option maxHeartbeats 4000000 in
set_option maxRecDepth 100000 in
theorem k_X11_as (l : Launch) (D : va_G) (b z : Nat) {h : qH} {x : Nat} {σ : sg} (hC : Cls D h x σ) (v k : Int32) : qMi l D b yX11_as cX11_as 4 .int 1 21 [.ref (x), .int (v), .int (k)] h z (fun r h' => r = cAs σ v k ∧ h' = h) := by
  refine q_i (L := [(0, .ref (x)), (1, .int (v)), (2, .int (k))]) (own := RX11) (by decide) rfl (Nat.le_of_ble_eq_true rfl) rfl ?_
  intro X C ret
  obtain ⟨hIn, hGa, hSt, hPg, hOl, hPe, hBk, hTr, hIm⟩ := id hC
  replace hGa : GaAt h x (nI (gN σ 1)) := hGa
  replace hSt : StAt D h (x + 1) (tnS σ) (nI (gN σ 3)) (nI (gN σ 4)) := hSt
  replace hPg : PgAt D h (x + 3) (gB σ 17) (nI (gN σ 16)) := hPg
  replace hBk : BkAt D h (x + 40) (gB σ 14) (gB σ 15) (nI (gN σ 13)) := hBk
  obtain ⟨hI0, hI3, hI03, hI4, hI6, hI8, hI13, hI16, hIt, hIk, hI1, hIim, hI25, hI26, hI08⟩ := id hIn
  have hOl1 := hOl.1.1
  obtain ⟨np, kd, co, lo, pa, hnpE, hkdE, hcoE, hloE, hpaE⟩ : ∃ np kd co lo pa, gN σ 8 = np ∧ gA σ 9 = kd ∧ gB σ 10 = co ∧ gB σ 11 = lo ∧ gB σ 12 = pa := ⟨_, _, _, _, _, rfl, rfl, rfl, rfl, rfl⟩
  obtain ⟨qa, hPe, hqx, hqj⟩ := hPe
  rw [hnpE, hkdE, hcoE, hloE, hpaE] at hPe
  rw [hnpE] at hqx hqj
  obtain ⟨hnp, ⟨pf, hpf, hpf1, hpf0⟩, hkp⟩ := hPe
  refine g_aload_n C 0 dX11_as_0 rfl rfl rfl ?_
  refine g_iload_n C 1 dX11_as_1 rfl rfl rfl ?_
  refine g_callVq C (As := [.int (v)]) (q := (RX11, TX11, 8)) (k_X11_personOf l D b z hC (v) hnpE hnp hpf hpf1 hpf0) hw_11_144 (hGa) rfl (by decide) rfl rfl (Nat.le_of_ble_eq_true rfl) ⟨Nat.zero_le _, Nat.zero_le _⟩ dX11_as_2 (pc' := 5) rfl ?_
  rintro rr h9 ⟨⟨i, eqi, hin, rfl⟩ | ⟨hno, rfl⟩, e9⟩
  · subst h9
    show qG X 0 0 z h 5 [(0, .ref (x)), (1, .int (v)), (2, .int (k))] [.ref (qa i)]
    obtain ⟨hkd, hKp⟩ := hkp i hin
    refine g_astore_n C ([(3, .ref (qa i)), (0, .ref (x)), (1, .int (v)), (2, .int (k))]) dX11_as_5 rfl (by decide) rfl rfl ?_
    refine g_aload_n C 0 dX11_as_6 rfl rfl rfl ?_
    refine g_ifnonnull C dX11_as_7 (tgt := 13) (by decide) ?_
    refine g_iload_n C 3 dX11_as_13 rfl rfl rfl ?_
    refine g_if_lt C dX11_as_14 (tgt := 22) (by decide) (pc' := 17) rfl ?_ ?_
    · intro c14
      refine g_bipush C (v := -102) dX11_as_22 (by decide) rfl ?_
      exact ret _ _ _ _ dX11_as_24 rfl (⟨by unfold cAs; rw [cIf_t ⟨i, eqi, by omega⟩, cIf_f (fun g => (inP0_to (hi := 4) (by decide) g).1 c14)], rfl⟩)
    · intro c14
      refine g_iload_n C 3 dX11_as_17 rfl rfl rfl ?_
      refine g_iconst C (v := 5) dX11_as_18 (by decide) rfl ?_
      refine g_icmp_lt C dX11_as_19 (tgt := 25) (by decide) (pc' := 22) rfl ?_ ?_
      · intro c19
        have hk4 := in5_of c14 c19
        refine g_aload_n C 0 dX11_as_25 rfl rfl rfl ?_
        refine g_iload_n C 3 dX11_as_26 rfl rfl rfl ?_
        have J27 : ∀ r1 : Int32, ((r1 = 1 ∧ isKd (kd i) k) ∨ (r1 = 0 ∧ ¬ isKd (kd i) k)) → qG X 0 0 z h 30 [(3, .ref (qa i)), (0, .ref (x)), (1, .int (v)), (2, .int (k))] [.int (r1)] := by
          intro r1 hpk
          refine g_if_eq C dX11_as_30 (tgt := 37) (by decide) (pc' := 33) rfl ?_ ?_
          · intro c30
            refine g_iconst C (v := -1) dX11_as_37 (by decide) rfl ?_
            have ec : v.toNatClampNeg = i := by rw [eqi]; exact nIc (by omega)
            exact ret _ _ _ _ dX11_as_38 rfl (⟨by unfold cAs; rw [cIf_t ⟨i, eqi, by omega⟩, cIf_t hk4, ec, hkdE, cIf_f (hpk_f hpk c30)], rfl⟩)
          · intro c30
            refine g_iload_n C 2 dX11_as_33 rfl rfl rfl ?_
            refine g_goto C dX11_as_34 (tgt := 38) (by decide) ?_
            have ec : v.toNatClampNeg = i := by rw [eqi]; exact nIc (by omega)
            exact ret _ _ _ _ dX11_as_38 rfl (⟨by unfold cAs; rw [cIf_t ⟨i, eqi, by omega⟩, cIf_t hk4, ec, hkdE, cIf_t (hpk_t hpk c30)], rfl⟩)
        have hk5 : kd i = 0 ∨ kd i = 1 ∨ kd i = 2 ∨ kd i = 3 ∨ kd i = 4 := by have := hkd; omega
        rcases hk5 with hk | hk | hk | hk | hk
        · have hKp : KpAt h (qa i) 4 (co i) (lo i) (pa i) := by have g := hKp; rw [hk] at g; exact g
          refine g_callSi C (As := [.ref (qa i), .int (k)]) (k0_X11_isOfKind l D b z hKp k hk4) hw_11_161 (by decide) rfl rfl (Nat.le_of_ble_eq_true rfl) ⟨Nat.zero_le _, Nat.zero_le _⟩ dX11_as_27 (pc' := 30) rfl ?_
          intro rr h9 hp9
          obtain ⟨hp9, e9⟩ := hp9
          subst h9
          exact J27 rr (by rw [hk]; exact hp9)
        · have hKp : KpAt h (qa i) 2 (co i) (lo i) (pa i) := by have g := hKp; rw [hk] at g; exact g
          refine g_callSi C (As := [.ref (qa i), .int (k)]) (k1_X11_isOfKind l D b z hKp k hk4) hw_11_161 (by decide) rfl rfl (Nat.le_of_ble_eq_true rfl) ⟨Nat.zero_le _, Nat.zero_le _⟩ dX11_as_27 (pc' := 30) rfl ?_
          intro rr h9 hp9
          obtain ⟨hp9, e9⟩ := hp9
          subst h9
          exact J27 rr (by rw [hk]; exact hp9)
        · have hKp : KpAt h (qa i) 6 (co i) (lo i) (pa i) := by have g := hKp; rw [hk] at g; exact g
          refine g_callSi C (As := [.ref (qa i), .int (k)]) (k2_X11_isOfKind l D b z hKp k hk4) hw_11_161 (by decide) rfl rfl (Nat.le_of_ble_eq_true rfl) ⟨Nat.zero_le _, Nat.zero_le _⟩ dX11_as_27 (pc' := 30) rfl ?_
          intro rr h9 hp9
          obtain ⟨hp9, e9⟩ := hp9
          subst h9
          exact J27 rr (by rw [hk]; exact hp9)
        · have hKp : KpAt h (qa i) 1 (co i) (lo i) (pa i) := by have g := hKp; rw [hk] at g; exact g
          refine g_callSi C (As := [.ref (qa i), .int (k)]) (k3_X11_isOfKind l D b z hKp k hk4) hw_11_161 (by decide) rfl rfl (Nat.le_of_ble_eq_true rfl) ⟨Nat.zero_le _, Nat.zero_le _⟩ dX11_as_27 (pc' := 30) rfl ?_
          intro rr h9 hp9
          obtain ⟨hp9, e9⟩ := hp9
          subst h9
          exact J27 rr (by rw [hk]; exact hp9)
        · have hKp : KpAt h (qa i) 5 (co i) (lo i) (pa i) := by have g := hKp; rw [hk] at g; exact g
          refine g_callSi C (As := [.ref (qa i), .int (k)]) (k4_X11_isOfKind l D b z hKp k hk4) hw_11_161 (by decide) rfl rfl (Nat.le_of_ble_eq_true rfl) ⟨Nat.zero_le _, Nat.zero_le _⟩ dX11_as_27 (pc' := 30) rfl ?_
          intro rr h9 hp9
          obtain ⟨hp9, e9⟩ := hp9
          subst h9
          exact J27 rr (by rw [hk]; exact hp9)
      · intro c19
        refine g_bipush C (v := -102) dX11_as_22 (by decide) rfl ?_
        exact ret _ _ _ _ dX11_as_24 rfl (⟨by unfold cAs; rw [cIf_t ⟨i, eqi, by omega⟩, cIf_f (fun g => c19 (inP4_lt g))], rfl⟩)
  · subst h9
    show qG X 0 0 z h 5 [(0, .ref (x)), (1, .int (v)), (2, .int (k))] [.null]
    refine g_astore_nN C ([(3, .null), (0, .ref (x)), (1, .int (v)), (2, .int (k))]) dX11_as_5 rfl (by decide) rfl rfl ?_
    refine g_aload_nN C 0 dX11_as_6 rfl rfl rfl ?_
    refine g_ifnonnullN C dX11_as_7 rfl ?_
    refine g_bipush C (v := -101) dX11_as_10 (by decide) rfl ?_
    exact ret _ _ _ _ dX11_as_12 rfl (⟨by unfold cAs; rw [cIf_f hno], rfl⟩)
set_option maxHeartbeats 4000000 in
set_option maxRecDepth 100000 in
theorem k_X11_about (l : Launch) (D : va_G) (b z : Nat) {h : qH} {x : Nat} {σ : sg} (hC : Cls D h x σ) (v w : Int32) : qMi l D b yX11_about cX11_about 4 .int 4 86 [.ref (x), .int (v), .int (w)] h z (fun r h' => r = cAbout σ v w ∧ h' = h) := by
  refine q_i (L := [(0, .ref (x)), (1, .int (v)), (2, .int (w))]) (own := RX11) (by decide) rfl (Nat.le_of_ble_eq_true rfl) rfl ?_
  intro X C ret
  obtain ⟨hIn, hGa, hSt, hPg, hOl, hPe, hBk, hTr, hIm⟩ := id hC
  replace hGa : GaAt h x (nI (gN σ 1)) := hGa
  replace hSt : StAt D h (x + 1) (tnS σ) (nI (gN σ 3)) (nI (gN σ 4)) := hSt
  replace hPg : PgAt D h (x + 3) (gB σ 17) (nI (gN σ 16)) := hPg
  replace hBk : BkAt D h (x + 40) (gB σ 14) (gB σ 15) (nI (gN σ 13)) := hBk
  obtain ⟨hI0, hI3, hI03, hI4, hI6, hI8, hI13, hI16, hIt, hIk, hI1, hIim, hI25, hI26, hI08⟩ := id hIn
  have hOl1 := hOl.1.1
  obtain ⟨np, kd, co, lo, pa, hnpE, hkdE, hcoE, hloE, hpaE⟩ : ∃ np kd co lo pa, gN σ 8 = np ∧ gA σ 9 = kd ∧ gB σ 10 = co ∧ gB σ 11 = lo ∧ gB σ 12 = pa := ⟨_, _, _, _, _, rfl, rfl, rfl, rfl, rfl⟩
  obtain ⟨qa, hPe, hqx, hqj⟩ := hPe
  rw [hnpE, hkdE, hcoE, hloE, hpaE] at hPe
  rw [hnpE] at hqx hqj
  obtain ⟨hnp, ⟨pf, hpf, hpf1, hpf0⟩, hkp⟩ := hPe
  refine g_aload_n C 0 dX11_about_0 rfl rfl rfl ?_
  refine g_iload_n C 1 dX11_about_1 rfl rfl rfl ?_
  refine g_callVq C (As := [.int (v)]) (q := (RX11, TX11, 8)) (k_X11_personOf l D b z hC (v) hnpE hnp hpf hpf1 hpf0) hw_11_144 (hGa) rfl (by decide) rfl rfl (Nat.le_of_ble_eq_true rfl) ⟨Nat.zero_le _, Nat.zero_le _⟩ dX11_about_2 (pc' := 5) rfl ?_
  rintro rr h9 ⟨⟨i, eqi, hin, rfl⟩ | ⟨hno, rfl⟩, e9⟩
  · subst h9
    show qG X 0 0 z h 5 [(0, .ref (x)), (1, .int (v)), (2, .int (w))] [.ref (qa i)]
    obtain ⟨hkd, hKp⟩ := hkp i hin
    refine g_astore_n C ([(3, .ref (qa i)), (0, .ref (x)), (1, .int (v)), (2, .int (w))]) dX11_about_5 rfl (by decide) rfl rfl ?_
    refine g_aload_n C 0 dX11_about_6 rfl rfl rfl ?_
    refine g_ifnonnull C dX11_about_7 (tgt := 13) (by decide) ?_
    refine g_iload_n C 3 dX11_about_13 rfl rfl rfl ?_
    by_cases c14_0 : (w) = 0
    · refine g_tableIn C dX11_about_14 (off := 34) (tgt := 48) (by rw [c14_0]; decide) (by rw [c14_0]; decide) (by rw [c14_0]; decide) (by decide) ?_
      refine g_aload_n C 0 dX11_about_48 rfl rfl rfl ?_
      have J49 : ∀ r1 : Int32, (r1 = nI (kd i)) → qG X 0 0 z h 52 [(3, .ref (qa i)), (0, .ref (x)), (1, .int (v)), (2, .int (w))] [.int (r1)] := by
        intro r1 hpk
        have ec : v.toNatClampNeg = i := by rw [eqi]; exact nIc (by omega)
        exact ret _ _ _ _ dX11_about_52 rfl (⟨by unfold cAbout; rw [cIf_t ⟨i, eqi, by omega⟩, if_pos c14_0, ec, hkdE]; exact hpk, rfl⟩)
      have hk5 : kd i = 0 ∨ kd i = 1 ∨ kd i = 2 ∨ kd i = 3 ∨ kd i = 4 := by have := hkd; omega
      rcases hk5 with hk | hk | hk | hk | hk
      · have hKp : KpAt h (qa i) 4 (co i) (lo i) (pa i) := by have g := hKp; rw [hk] at g; exact g
        refine g_callVi C (As := []) (q := (RX4, TX4, 3)) (k_X4_kindNumber l D b z h (qa i)) hw_11_148_4 (hKp) rfl (by decide) rfl rfl (Nat.le_of_ble_eq_true rfl) ⟨Nat.zero_le _, Nat.zero_le _⟩ dX11_about_49 (pc' := 52) rfl ?_
        intro rr h9 hp9
        obtain ⟨hp9, e9⟩ := hp9
        subst h9
        exact J49 rr (by rw [hk]; exact hp9)
      · have hKp : KpAt h (qa i) 2 (co i) (lo i) (pa i) := by have g := hKp; rw [hk] at g; exact g
        refine g_callOi C (As := []) (q := (RX2, TX2, 3)) (k_X2_kindNumber l D b z h (qa i)) hw_11_148_2 (hKp) rfl (by decide) rfl rfl (Nat.le_of_ble_eq_true rfl) ⟨Nat.zero_le _, Nat.zero_le _⟩ dX11_about_49 (pc' := 52) rfl ?_
        intro rr h9 hp9
        obtain ⟨hp9, e9⟩ := hp9
        subst h9
        exact J49 rr (by rw [hk]; exact hp9)
      · have hKp : KpAt h (qa i) 6 (co i) (lo i) (pa i) := by have g := hKp; rw [hk] at g; exact g
        refine g_callOi C (As := []) (q := (RX6, TX6, 3)) (k_X6_kindNumber l D b z h (qa i)) hw_11_148_6 (hKp) rfl (by decide) rfl rfl (Nat.le_of_ble_eq_true rfl) ⟨Nat.zero_le _, Nat.zero_le _⟩ dX11_about_49 (pc' := 52) rfl ?_
        intro rr h9 hp9
        obtain ⟨hp9, e9⟩ := hp9
        subst h9
        exact J49 rr (by rw [hk]; exact hp9)
      · have hKp : KpAt h (qa i) 1 (co i) (lo i) (pa i) := by have g := hKp; rw [hk] at g; exact g
        refine g_callOi C (As := []) (q := (RX1, TX1, 3)) (k_X1_kindNumber l D b z h (qa i)) hw_11_148_1 (hKp) rfl (by decide) rfl rfl (Nat.le_of_ble_eq_true rfl) ⟨Nat.zero_le _, Nat.zero_le _⟩ dX11_about_49 (pc' := 52) rfl ?_
        intro rr h9 hp9
        obtain ⟨hp9, e9⟩ := hp9
        subst h9
        exact J49 rr (by rw [hk]; exact hp9)
      · have hKp : KpAt h (qa i) 5 (co i) (lo i) (pa i) := by have g := hKp; rw [hk] at g; exact g
        refine g_callOi C (As := []) (q := (RX5, TX5, 3)) (k_X5_kindNumber l D b z h (qa i)) hw_11_148_5 (hKp) rfl (by decide) rfl rfl (Nat.le_of_ble_eq_true rfl) ⟨Nat.zero_le _, Nat.zero_le _⟩ dX11_about_49 (pc' := 52) rfl ?_
        intro rr h9 hp9
        obtain ⟨hp9, e9⟩ := hp9
        subst h9
        exact J49 rr (by rw [hk]; exact hp9)
    by_cases c14_1 : (w) = 1
    · refine g_tableIn C dX11_about_14 (off := 39) (tgt := 53) (by rw [c14_1]; decide) (by rw [c14_1]; decide) (by rw [c14_1]; decide) (by decide) ?_
      refine g_aload_n C 0 dX11_about_53 rfl rfl rfl ?_
      have JG54 : qG X 0 0 z h 57 [(3, .ref (qa i)), (0, .ref (x)), (1, .int (v)), (2, .int (w))] [.int (co i)] := by
        have ec : v.toNatClampNeg = i := by rw [eqi]; exact nIc (by omega)
        exact ret _ _ _ _ dX11_about_57 rfl (⟨by unfold cAbout; rw [cIf_t ⟨i, eqi, by omega⟩, if_neg c14_0, if_pos c14_1, ec, hcoE], rfl⟩)
      have hk5 : kd i = 0 ∨ kd i = 1 ∨ kd i = 2 ∨ kd i = 3 ∨ kd i = 4 := by have := hkd; omega
      rcases hk5 with hk | hk | hk | hk | hk
      · have hKp : KpAt h (qa i) 4 (co i) (lo i) (pa i) := by have g := hKp; rw [hk] at g; exact g
        exact gf_11_151_4 C hKp (v := .int (co i)) rfl dX11_about_54 rfl JG54
      · have hKp : KpAt h (qa i) 2 (co i) (lo i) (pa i) := by have g := hKp; rw [hk] at g; exact g
        exact gf_11_151_2 C hKp (v := .int (co i)) rfl dX11_about_54 rfl JG54
      · have hKp : KpAt h (qa i) 6 (co i) (lo i) (pa i) := by have g := hKp; rw [hk] at g; exact g
        exact gf_11_151_6 C hKp (v := .int (co i)) rfl dX11_about_54 rfl JG54
      · have hKp : KpAt h (qa i) 1 (co i) (lo i) (pa i) := by have g := hKp; rw [hk] at g; exact g
        exact gf_11_151_1 C hKp (v := .int (co i)) rfl dX11_about_54 rfl JG54
      · have hKp : KpAt h (qa i) 5 (co i) (lo i) (pa i) := by have g := hKp; rw [hk] at g; exact g
        exact gf_11_151_5 C hKp (v := .int (co i)) rfl dX11_about_54 rfl JG54
    by_cases c14_2 : (w) = 2
    · refine g_tableIn C dX11_about_14 (off := 44) (tgt := 58) (by rw [c14_2]; decide) (by rw [c14_2]; decide) (by rw [c14_2]; decide) (by decide) ?_
      refine g_aload_n C 0 dX11_about_58 rfl rfl rfl ?_
      have JG59 : qG X 0 0 z h 62 [(3, .ref (qa i)), (0, .ref (x)), (1, .int (v)), (2, .int (w))] [.int (lo i)] := by
        have ec : v.toNatClampNeg = i := by rw [eqi]; exact nIc (by omega)
        exact ret _ _ _ _ dX11_about_62 rfl (⟨by unfold cAbout; rw [cIf_t ⟨i, eqi, by omega⟩, if_neg c14_0, if_neg c14_1, if_pos c14_2, ec, hloE], rfl⟩)
      have hk5 : kd i = 0 ∨ kd i = 1 ∨ kd i = 2 ∨ kd i = 3 ∨ kd i = 4 := by have := hkd; omega
      rcases hk5 with hk | hk | hk | hk | hk
      · have hKp : KpAt h (qa i) 4 (co i) (lo i) (pa i) := by have g := hKp; rw [hk] at g; exact g
        exact gf_11_154_4 C hKp (v := .int (lo i)) rfl dX11_about_59 rfl JG59
      · have hKp : KpAt h (qa i) 2 (co i) (lo i) (pa i) := by have g := hKp; rw [hk] at g; exact g
        exact gf_11_154_2 C hKp (v := .int (lo i)) rfl dX11_about_59 rfl JG59
      · have hKp : KpAt h (qa i) 6 (co i) (lo i) (pa i) := by have g := hKp; rw [hk] at g; exact g
        exact gf_11_154_6 C hKp (v := .int (lo i)) rfl dX11_about_59 rfl JG59
      · have hKp : KpAt h (qa i) 1 (co i) (lo i) (pa i) := by have g := hKp; rw [hk] at g; exact g
        exact gf_11_154_1 C hKp (v := .int (lo i)) rfl dX11_about_59 rfl JG59
      · have hKp : KpAt h (qa i) 5 (co i) (lo i) (pa i) := by have g := hKp; rw [hk] at g; exact g
        exact gf_11_154_5 C hKp (v := .int (lo i)) rfl dX11_about_59 rfl JG59
    by_cases c14_3 : (w) = 3
    · refine g_tableIn C dX11_about_14 (off := 49) (tgt := 63) (by rw [c14_3]; decide) (by rw [c14_3]; decide) (by rw [c14_3]; decide) (by decide) ?_
      refine g_aload_n C 0 dX11_about_63 rfl rfl rfl ?_
      have JG64 : qG X 0 0 z h 67 [(3, .ref (qa i)), (0, .ref (x)), (1, .int (v)), (2, .int (w))] [.int (pa i)] := by
        have ec : v.toNatClampNeg = i := by rw [eqi]; exact nIc (by omega)
        exact ret _ _ _ _ dX11_about_67 rfl (⟨by unfold cAbout; rw [cIf_t ⟨i, eqi, by omega⟩, if_neg c14_0, if_neg c14_1, if_neg c14_2, if_pos c14_3, ec, hpaE], rfl⟩)
      have hk5 : kd i = 0 ∨ kd i = 1 ∨ kd i = 2 ∨ kd i = 3 ∨ kd i = 4 := by have := hkd; omega
      rcases hk5 with hk | hk | hk | hk | hk
      · have hKp : KpAt h (qa i) 4 (co i) (lo i) (pa i) := by have g := hKp; rw [hk] at g; exact g
        exact gf_11_124_4 C hKp (v := .int (pa i)) rfl dX11_about_64 rfl JG64
      · have hKp : KpAt h (qa i) 2 (co i) (lo i) (pa i) := by have g := hKp; rw [hk] at g; exact g
        exact gf_11_124_2 C hKp (v := .int (pa i)) rfl dX11_about_64 rfl JG64
      · have hKp : KpAt h (qa i) 6 (co i) (lo i) (pa i) := by have g := hKp; rw [hk] at g; exact g
        exact gf_11_124_6 C hKp (v := .int (pa i)) rfl dX11_about_64 rfl JG64
      · have hKp : KpAt h (qa i) 1 (co i) (lo i) (pa i) := by have g := hKp; rw [hk] at g; exact g
        exact gf_11_124_1 C hKp (v := .int (pa i)) rfl dX11_about_64 rfl JG64
      · have hKp : KpAt h (qa i) 5 (co i) (lo i) (pa i) := by have g := hKp; rw [hk] at g; exact g
        exact gf_11_124_5 C hKp (v := .int (pa i)) rfl dX11_about_64 rfl JG64
    by_cases c14_4 : (w) = 4
    · refine g_tableIn C dX11_about_14 (off := 54) (tgt := 68) (by rw [c14_4]; decide) (by rw [c14_4]; decide) (by rw [c14_4]; decide) (by decide) ?_
      have hOK := hOl.2 (by have := hI08; omega)
      refine g_aload_n C 0 dX11_about_68 rfl rfl rfl ?_
      refine g_aload_n C 1 dX11_about_69 rfl rfl rfl ?_
      refine gf_11_28 C (hGa) (v := .ref (x + 5)) rfl dX11_about_70 rfl ?_
      have J73 : ∀ r2 : Int32, ((r2 = 1 ∧ covQ (kd i) (gB σ 7) (stS σ) (gN σ 6) (co i) (lo i)) ∨ (r2 = 0 ∧ ¬ covQ (kd i) (gB σ 7) (stS σ) (gN σ 6) (co i) (lo i))) → qG X 0 0 z h 76 [(3, .ref (qa i)), (0, .ref (x)), (1, .int (v)), (2, .int (w))] [.int (r2)] := by
        intro r2 hpk
        refine g_if_eq C dX11_about_76 (tgt := 83) (by decide) (pc' := 79) rfl ?_ ?_
        · intro c76
          refine g_iconst C (v := 0) dX11_about_83 (by decide) rfl ?_
          have ec : v.toNatClampNeg = i := by rw [eqi]; exact nIc (by omega)
          exact ret _ _ _ _ dX11_about_84 rfl (⟨by unfold cAbout; rw [cIf_t ⟨i, eqi, by omega⟩, if_neg c14_0, if_neg c14_1, if_neg c14_2, if_neg c14_3, if_pos c14_4, ec, cIf_f (by unfold covS; rw [hkdE, hcoE, hloE]; exact hpk_f hpk c76)], rfl⟩)
        · intro c76
          refine g_iconst C (v := 1) dX11_about_79 (by decide) rfl ?_
          refine g_goto C dX11_about_80 (tgt := 84) (by decide) ?_
          have ec : v.toNatClampNeg = i := by rw [eqi]; exact nIc (by omega)
          exact ret _ _ _ _ dX11_about_84 rfl (⟨by unfold cAbout; rw [cIf_t ⟨i, eqi, by omega⟩, if_neg c14_0, if_neg c14_1, if_neg c14_2, if_neg c14_3, if_pos c14_4, ec, cIf_t (by unfold covS; rw [hkdE, hcoE, hloE]; exact hpk_t hpk c76)], rfl⟩)
      have hk5 : kd i = 0 ∨ kd i = 1 ∨ kd i = 2 ∨ kd i = 3 ∨ kd i = 4 := by have := hkd; omega
      rcases hk5 with hk | hk | hk | hk | hk
      · have hKp : KpAt h (qa i) 4 (co i) (lo i) (pa i) := by have g := hKp; rw [hk] at g; exact g
        refine g_callVi C (As := [.ref (x + 5)]) (q := (RX4, TX4, 3)) (k_X4_covers l D b z hI6 hOK (qa i) (co i) (lo i)) hw_11_157_4 (hKp) rfl (by decide) rfl rfl (Nat.le_of_ble_eq_true rfl) ⟨Nat.zero_le _, Nat.zero_le _⟩ dX11_about_73 (pc' := 76) rfl ?_
        intro rr h9 hp9
        obtain ⟨hp9, e9⟩ := hp9
        subst h9
        exact J73 rr (by rw [hk]; exact hp9)
      · have hKp : KpAt h (qa i) 2 (co i) (lo i) (pa i) := by have g := hKp; rw [hk] at g; exact g
        refine g_callOi C (As := [.ref (x + 5)]) (q := (RX2, TX2, 3)) (k_X2_covers l D b z hI6 hOK hKp) hw_11_157_2 (hKp) rfl (by decide) rfl rfl (Nat.le_of_ble_eq_true rfl) ⟨Nat.zero_le _, Nat.zero_le _⟩ dX11_about_73 (pc' := 76) rfl ?_
        intro rr h9 hp9
        obtain ⟨hp9, e9⟩ := hp9
        subst h9
        exact J73 rr (by rw [hk]; exact hp9)
      · have hKp : KpAt h (qa i) 6 (co i) (lo i) (pa i) := by have g := hKp; rw [hk] at g; exact g
        refine g_callOi C (As := [.ref (x + 5)]) (q := (RX6, TX6, 3)) (k_X6_covers l D b z hI6 hOK (qa i) (co i) (lo i)) hw_11_157_6 (hKp) rfl (by decide) rfl rfl (Nat.le_of_ble_eq_true rfl) ⟨Nat.zero_le _, Nat.zero_le _⟩ dX11_about_73 (pc' := 76) rfl ?_
        intro rr h9 hp9
        obtain ⟨hp9, e9⟩ := hp9
        subst h9
        exact J73 rr (by rw [hk]; exact hp9)
      · have hKp : KpAt h (qa i) 1 (co i) (lo i) (pa i) := by have g := hKp; rw [hk] at g; exact g
        refine g_callOi C (As := [.ref (x + 5)]) (q := (RX1, TX1, 3)) (k1_X1_covers l D b z hI6 hOK hKp) hw_11_157_1 (hKp) rfl (by decide) rfl rfl (Nat.le_of_ble_eq_true rfl) ⟨Nat.zero_le _, Nat.zero_le _⟩ dX11_about_73 (pc' := 76) rfl ?_
        intro rr h9 hp9
        obtain ⟨hp9, e9⟩ := hp9
        subst h9
        exact J73 rr (by rw [hk]; exact hp9)
      · have hKp : KpAt h (qa i) 5 (co i) (lo i) (pa i) := by have g := hKp; rw [hk] at g; exact g
        refine g_callOi C (As := [.ref (x + 5)]) (q := (RX5, TX5, 3)) (k_X5_covers l D b z hI6 hOK hKp) hw_11_157_5 (hKp) rfl (by decide) rfl rfl (Nat.le_of_ble_eq_true rfl) ⟨Nat.zero_le _, Nat.zero_le _⟩ dX11_about_73 (pc' := 76) rfl ?_
        intro rr h9 hp9
        obtain ⟨hp9, e9⟩ := hp9
        subst h9
        exact J73 rr (by rw [hk]; exact hp9)
    refine g_tableOut C dX11_about_14 (tgt := 85) (swo_0_4 c14_0 c14_1 c14_2 c14_3 c14_4) (by decide) ?_
    refine g_bipush C (v := -102) dX11_about_85 (by decide) rfl ?_
    have ec : v.toNatClampNeg = i := by rw [eqi]; exact nIc (by omega)
    exact ret _ _ _ _ dX11_about_87 rfl (⟨by unfold cAbout; rw [cIf_t ⟨i, eqi, by omega⟩, if_neg c14_0, if_neg c14_1, if_neg c14_2, if_neg c14_3, if_neg c14_4], rfl⟩)
  · subst h9
    show qG X 0 0 z h 5 [(0, .ref (x)), (1, .int (v)), (2, .int (w))] [.null]
    refine g_astore_nN C ([(3, .null), (0, .ref (x)), (1, .int (v)), (2, .int (w))]) dX11_about_5 rfl (by decide) rfl rfl ?_
    refine g_aload_nN C 0 dX11_about_6 rfl rfl rfl ?_
    refine g_ifnonnullN C dX11_about_7 rfl ?_
    refine g_bipush C (v := -101) dX11_about_10 (by decide) rfl ?_
    exact ret _ _ _ _ dX11_about_12 rfl (⟨by unfold cAbout; rw [cIf_f hno], rfl⟩)
def cCount (σ : sg) (w : Int32) : Int32 := if w = 0 then nI (gN σ 3) else if w = 1 then nI (gN σ 4) else if w = 2 then gI σ 5 else if w = 3 then nI (gN σ 6) else if w = 4 then nI (cntR (gB σ 7) 4) else if w = 5 then nI (gN σ 8) else if w = 6 then paS (gN σ 8) (gB σ 12) 4 else if w = 7 then nI (gN σ 13) else if w = 8 then nI (gN σ 16) else if w = 9 then nI (gN σ 1) else -102
set_option maxHeartbeats 4000000 in
set_option maxRecDepth 100000 in
theorem k_X11_count (l : Launch) (D : va_G) (b z : Nat) {h : qH} {x : Nat} {σ : sg} (hC : Cls D h x σ) (w : Int32) : qMi l D b yX11_count cX11_count 2 .int 1 23 [.ref (x), .int (w)] h z (fun r h' => r = cCount σ w ∧ h' = h) := by
  refine q_i (L := [(0, .ref (x)), (1, .int (w))]) (own := RX11) (by decide) rfl (Nat.le_of_ble_eq_true rfl) rfl ?_
  intro X C ret
  obtain ⟨hIn, hGa, hSt, hPg, hOl, hPe, hBk, hTr, hIm⟩ := id hC
  replace hGa : GaAt h x (nI (gN σ 1)) := hGa
  replace hSt : StAt D h (x + 1) (tnS σ) (nI (gN σ 3)) (nI (gN σ 4)) := hSt
  replace hPg : PgAt D h (x + 3) (gB σ 17) (nI (gN σ 16)) := hPg
  replace hBk : BkAt D h (x + 40) (gB σ 14) (gB σ 15) (nI (gN σ 13)) := hBk
  obtain ⟨hI0, hI3, hI03, hI4, hI6, hI8, hI13, hI16, hIt, hIk, hI1, hIim, hI25, hI26, hI08⟩ := id hIn
  have hOl1 := hOl.1.1
  refine g_iload_n C 1 dX11_count_0 rfl rfl rfl ?_
  by_cases c1_0 : (w) = 0
  · refine g_tableIn C dX11_count_1 (off := 55) (tgt := 56) (by rw [c1_0]; decide) (by rw [c1_0]; decide) (by rw [c1_0]; decide) (by decide) ?_
    refine g_aload_n C 0 dX11_count_56 rfl rfl rfl ?_
    refine gf_11_19 C (hGa) (v := .ref (x + 1)) rfl dX11_count_57 rfl ?_
    refine gf_11_97 C (hSt.1) (v := .int (nI (gN σ 3))) rfl dX11_count_60 rfl ?_
    exact ret _ _ _ _ dX11_count_63 rfl (⟨by unfold cCount; rw [if_pos c1_0], rfl⟩)
  by_cases c1_1 : (w) = 1
  · refine g_tableIn C dX11_count_1 (off := 63) (tgt := 64) (by rw [c1_1]; decide) (by rw [c1_1]; decide) (by rw [c1_1]; decide) (by decide) ?_
    refine g_aload_n C 0 dX11_count_64 rfl rfl rfl ?_
    refine gf_11_19 C (hGa) (v := .ref (x + 1)) rfl dX11_count_65 rfl ?_
    refine gf_11_251 C (hSt.1) (v := .int (nI (gN σ 4))) rfl dX11_count_68 rfl ?_
    exact ret _ _ _ _ dX11_count_71 rfl (⟨by unfold cCount; rw [if_neg c1_0, if_pos c1_1], rfl⟩)
  by_cases c1_2 : (w) = 2
  · refine g_tableIn C dX11_count_1 (off := 71) (tgt := 72) (by rw [c1_2]; decide) (by rw [c1_2]; decide) (by rw [c1_2]; decide) (by decide) ?_
    refine g_aload_n C 0 dX11_count_72 rfl rfl rfl ?_
    refine gf_11_28 C (hGa) (v := .ref (x + 5)) rfl dX11_count_73 rfl ?_
    refine gf_11_134 C (hOl1.1) (v := .int (gI σ 5)) rfl dX11_count_76 rfl ?_
    exact ret _ _ _ _ dX11_count_79 rfl (⟨by unfold cCount; rw [if_neg c1_0, if_neg c1_1, if_pos c1_2], rfl⟩)
  by_cases c1_3 : (w) = 3
  · refine g_tableIn C dX11_count_1 (off := 79) (tgt := 80) (by rw [c1_3]; decide) (by rw [c1_3]; decide) (by rw [c1_3]; decide) (by decide) ?_
    refine g_aload_n C 0 dX11_count_80 rfl rfl rfl ?_
    refine gf_11_28 C (hGa) (v := .ref (x + 5)) rfl dX11_count_81 rfl ?_
    refine gf_11_209 C (hOl1.1) (v := .int (nI (gN σ 6))) rfl dX11_count_84 rfl ?_
    exact ret _ _ _ _ dX11_count_87 rfl (⟨by unfold cCount; rw [if_neg c1_0, if_neg c1_1, if_neg c1_2, if_pos c1_3], rfl⟩)
  by_cases c1_4 : (w) = 4
  · refine g_tableIn C dX11_count_1 (off := 87) (tgt := 88) (by rw [c1_4]; decide) (by rw [c1_4]; decide) (by rw [c1_4]; decide) (by decide) ?_
    refine g_aload_n C 0 dX11_count_88 rfl rfl rfl ?_
    refine gf_11_28 C (hGa) (v := .ref (x + 5)) rfl dX11_count_89 rfl ?_
    refine g_callVi C (As := []) (q := (RX7, TX7, 8)) (k_X7_readingsTold l D b z hOl1) hw_11_113 (hOl1.1) rfl (by decide) rfl rfl (Nat.le_of_ble_eq_true rfl) ⟨Nat.zero_le _, Nat.zero_le _⟩ dX11_count_92 (pc' := 95) rfl ?_
    rintro r1 h9 ⟨er, e9⟩
    subst h9; subst er
    exact ret _ _ _ _ dX11_count_95 rfl (⟨by unfold cCount; rw [if_neg c1_0, if_neg c1_1, if_neg c1_2, if_neg c1_3, if_pos c1_4], rfl⟩)
  by_cases c1_5 : (w) = 5
  · refine g_tableIn C dX11_count_1 (off := 95) (tgt := 96) (by rw [c1_5]; decide) (by rw [c1_5]; decide) (by rw [c1_5]; decide) (by decide) ?_
    refine g_aload_n C 0 dX11_count_96 rfl rfl rfl ?_
    refine g_callVi C (As := []) (q := (RX11, TX11, 8)) (k_X11_countPeople l D b z hC) hw_11_243 (hGa) rfl (by decide) rfl rfl (Nat.le_of_ble_eq_true rfl) ⟨Nat.zero_le _, Nat.zero_le _⟩ dX11_count_97 (pc' := 100) rfl ?_
    rintro r2 h9 ⟨er, e9⟩
    subst h9; subst er
    exact ret _ _ _ _ dX11_count_100 rfl (⟨by unfold cCount; rw [if_neg c1_0, if_neg c1_1, if_neg c1_2, if_neg c1_3, if_neg c1_4, if_pos c1_5], rfl⟩)
  by_cases c1_6 : (w) = 6
  · refine g_tableIn C dX11_count_1 (off := 100) (tgt := 101) (by rw [c1_6]; decide) (by rw [c1_6]; decide) (by rw [c1_6]; decide) (by decide) ?_
    refine g_aload_n C 0 dX11_count_101 rfl rfl rfl ?_
    refine g_callVi C (As := []) (q := (RX11, TX11, 8)) (k_X11_paidByAll l D b z hC) hw_11_254 (hGa) rfl (by decide) rfl rfl (Nat.le_of_ble_eq_true rfl) ⟨Nat.zero_le _, Nat.zero_le _⟩ dX11_count_102 (pc' := 105) rfl ?_
    rintro r3 h9 ⟨er, e9⟩
    subst h9; subst er
    exact ret _ _ _ _ dX11_count_105 rfl (⟨by unfold cCount; rw [if_neg c1_0, if_neg c1_1, if_neg c1_2, if_neg c1_3, if_neg c1_4, if_neg c1_5, if_pos c1_6], rfl⟩)
  by_cases c1_7 : (w) = 7
  · refine g_tableIn C dX11_count_1 (off := 105) (tgt := 106) (by rw [c1_7]; decide) (by rw [c1_7]; decide) (by rw [c1_7]; decide) (by decide) ?_
    refine g_aload_n C 0 dX11_count_106 rfl rfl rfl ?_
    refine gf_11_41 C (hGa) (v := .ref (x + 40)) rfl dX11_count_107 rfl ?_
    refine gf_11_87 C (hBk.1) (v := .int (nI (gN σ 13))) rfl dX11_count_110 rfl ?_
    exact ret _ _ _ _ dX11_count_113 rfl (⟨by unfold cCount; rw [if_neg c1_0, if_neg c1_1, if_neg c1_2, if_neg c1_3, if_neg c1_4, if_neg c1_5, if_neg c1_6, if_pos c1_7], rfl⟩)
  by_cases c1_8 : (w) = 8
  · refine g_tableIn C dX11_count_1 (off := 113) (tgt := 114) (by rw [c1_8]; decide) (by rw [c1_8]; decide) (by rw [c1_8]; decide) (by decide) ?_
    refine g_aload_n C 0 dX11_count_114 rfl rfl rfl ?_
    refine gf_11_13 C (hGa) (v := .ref (x + 3)) rfl dX11_count_115 rfl ?_
    refine gf_11_67 C (hPg.1) (v := .int (nI (gN σ 16))) rfl dX11_count_118 rfl ?_
    exact ret _ _ _ _ dX11_count_121 rfl (⟨by unfold cCount; rw [if_neg c1_0, if_neg c1_1, if_neg c1_2, if_neg c1_3, if_neg c1_4, if_neg c1_5, if_neg c1_6, if_neg c1_7, if_pos c1_8], rfl⟩)
  by_cases c1_9 : (w) = 9
  · refine g_tableIn C dX11_count_1 (off := 121) (tgt := 122) (by rw [c1_9]; decide) (by rw [c1_9]; decide) (by rw [c1_9]; decide) (by decide) ?_
    refine g_aload_n C 0 dX11_count_122 rfl rfl rfl ?_
    refine gf_11_94 C (hGa) (v := .int (nI (gN σ 1))) rfl dX11_count_123 rfl ?_
    exact ret _ _ _ _ dX11_count_126 rfl (⟨by unfold cCount; rw [if_neg c1_0, if_neg c1_1, if_neg c1_2, if_neg c1_3, if_neg c1_4, if_neg c1_5, if_neg c1_6, if_neg c1_7, if_neg c1_8, if_pos c1_9], rfl⟩)
  refine g_tableOut C dX11_count_1 (tgt := 127) (swo_0_9 c1_0 c1_1 c1_2 c1_3 c1_4 c1_5 c1_6 c1_7 c1_8 c1_9) (by decide) ?_
  refine g_bipush C (v := -102) dX11_count_127 (by decide) rfl ?_
  exact ret _ _ _ _ dX11_count_129 rfl (⟨by unfold cCount; rw [if_neg c1_0, if_neg c1_1, if_neg c1_2, if_neg c1_3, if_neg c1_4, if_neg c1_5, if_neg c1_6, if_neg c1_7, if_neg c1_8, if_neg c1_9], rfl⟩)
def mx (h v : Int64) : Int64 := 31 * h + v
noncomputable def dgP (σ : sg) (s : Int64) : Nat → Int64
  | 0 => s
  | i + 1 => mx (mx (mx (mx (mx (dgP σ s i) (cAbout σ (nI i) 0).toInt64) (cAbout σ (nI i) 1).toInt64) (cAbout σ (nI i) 2).toInt64) (cAbout σ (nI i) 3).toInt64) (cAbout σ (nI i) 4).toInt64
noncomputable def dgL (σ : sg) (s : Int64) (k : Int32) : Int64 := mx (mx (mx (mx (mx (mx s (cLikely σ k 0 0)) (cLikely σ k 0 1)) (cLikely σ k 1 0)) (cLikely σ k 1 1)) (cLikely σ k 2 0)) (cLikely σ k 2 1)
noncomputable def dgT (σ : sg) (s : Int64) : Int64 := mx (mx (mx (mx s (cTold σ 1).toInt64) (cTold σ 2).toInt64) (cTold σ 3).toInt64) (cTold σ 4).toInt64
noncomputable def dgC (σ : sg) (s : Int64) : Int64 := mx (mx (mx (mx (mx (dgL σ (dgL σ (dgT σ s) 1) 6) (cLikeliest σ).toInt64) (cWays σ).toInt64) (cSure σ 1).toInt64) (cLook σ 2 5 0)) (cLook σ 2 5 1)
noncomputable def dgW (σ : sg) (s : Int64) : Int64 := mx (mx (mx (mx (mx (mx s (cWrong σ 0).toInt64) (cWrong σ 1).toInt64) (cWrong σ 2).toInt64) (cWrong σ 3).toInt64) (cWrong σ 4).toInt64) (cEarliest σ).toInt64
def dgG (cs : Nat → Int32) (s : Int64) : Nat → Int64
  | 0 => s
  | i + 1 => mx (dgG cs s i) (cs i).toInt64
def dgN (f : Int32 → Int32) (s : Int64) : Int64 := mx (mx (mx (mx (mx (mx (mx (mx (mx (mx s (f 0).toInt64) (f 1).toInt64) (f 2).toInt64) (f 3).toInt64) (f 4).toInt64) (f 5).toInt64) (f 6).toInt64) (f 7).toInt64) (f 8).toInt64) (f 9).toInt64
noncomputable def cDigest (σ : sg) : Int64 := dgN (cCount σ) (dgG (gB σ 17) (dgW σ (if 0 < gN σ 3 then dgC σ (dgP σ 821 (gN σ 8)) else dgP σ 821 (gN σ 8))) (gN σ 16))
set_option maxHeartbeats 4000000 in
set_option maxRecDepth 100000 in
theorem k_X11_digestOfPeople (l : Launch) (D : va_G) (b z : Nat) {h : qH} {x : Nat} {σ : sg} (hC : Cls D h x σ) (s : Int64) : qMl l D b yX11_digestOfPeople cX11_digestOfPeople 8 5 109 [.ref (x), .long (s)] h z (fun r h' => r = dgP σ s (gN σ 8) ∧ h' = h) := by
  refine q_l (L := [(0, .ref (x)), (1, .long (s))]) (own := RX11) (by decide) rfl (Nat.le_of_ble_eq_true rfl) rfl ?_
  intro X C ret
  obtain ⟨hIn, hGa, hSt, hPg, hOl, hPe, hBk, hTr, hIm⟩ := id hC
  replace hGa : GaAt h x (nI (gN σ 1)) := hGa
  replace hSt : StAt D h (x + 1) (tnS σ) (nI (gN σ 3)) (nI (gN σ 4)) := hSt
  replace hPg : PgAt D h (x + 3) (gB σ 17) (nI (gN σ 16)) := hPg
  replace hBk : BkAt D h (x + 40) (gB σ 14) (gB σ 15) (nI (gN σ 13)) := hBk
  obtain ⟨hI0, hI3, hI03, hI4, hI6, hI8, hI13, hI16, hIt, hIk, hI1, hIim, hI25, hI26, hI08⟩ := id hIn
  have hOl1 := hOl.1.1
  refine g_lload_n C 1 dX11_digestOfPeople_0 rfl rfl rfl ?_
  refine g_lstore_n C ([(3, .long (s)), (0, .ref (x)), (1, .long (s))]) dX11_digestOfPeople_1 rfl (by decide) rfl rfl ?_
  refine g_aload_n C 1 dX11_digestOfPeople_2 rfl rfl rfl ?_
  refine g_callVi C (As := []) (q := (RX11, TX11, 8)) (k_X11_countPeople l D b z hC) hw_11_243 (hGa) rfl (by decide) rfl rfl (Nat.le_of_ble_eq_true rfl) ⟨Nat.zero_le _, Nat.zero_le _⟩ dX11_digestOfPeople_3 (pc' := 6) rfl ?_
  rintro r1 h9 ⟨er, e9⟩
  subst h9; subst er
  refine g_istore C ([(5, .int (nI (gN σ 8))), (3, .long (s)), (0, .ref (x)), (1, .long (s))]) dX11_digestOfPeople_6 (by decide) rfl rfl ?_
  refine g_iconst C (v := 0) dX11_digestOfPeople_8 (by decide) rfl ?_
  refine g_istore C ([(6, .int (0)), (5, .int (nI (gN σ 8))), (3, .long (s)), (0, .ref (x)), (1, .long (s))]) dX11_digestOfPeople_9 (by decide) rfl rfl ?_
  have loop11 : ∀ (N : Nat) (i : Nat) (hh : Int64), gN σ 8 - i < N → (i ≤ gN σ 8) → (hh = dgP σ s i) → qG X 0 0 z h 11 [(6, .int (nI (i))), (5, .int (nI (gN σ 8))), (3, .long (hh)), (1, .long (s)), (0, .ref (x))] [] := by
    intro N
    induction N with
    | zero => intro i hh hm; exact absurd hm (Nat.not_lt_zero _)
    | succ N ih11 =>
      intro i hh hm hi hhe
      refine g_iload C 0 dX11_digestOfPeople_11 rfl rfl ?_
      refine g_iload C 1 dX11_digestOfPeople_13 rfl rfl ?_
      refine g_icmp_ge C dX11_digestOfPeople_15 (tgt := 55) (by decide) (pc' := 18) rfl ?_ ?_
      · intro c15
        replace c15 := (nI_leI (a := gN σ 8) (b := i) (by omega) (by omega)).mp c15
        refine g_lload_n C 2 dX11_digestOfPeople_55 rfl rfl rfl ?_
        exact ret _ _ _ _ dX11_digestOfPeople_56 (⟨by rw [hhe, show i = gN σ 8 by omega], rfl⟩)
      · intro c15
        replace c15 := (not_congr (nI_leI (a := gN σ 8) (b := i) (by omega) (by omega))).mp c15
        refine g_iconst C (v := 0) dX11_digestOfPeople_18 (by decide) rfl ?_
        refine g_istore C ([(7, .int (0)), (6, .int (nI (i))), (5, .int (nI (gN σ 8))), (3, .long (hh)), (1, .long (s)), (0, .ref (x))]) dX11_digestOfPeople_19 (by decide) rfl rfl ?_
        refine g_iload C 0 dX11_digestOfPeople_21 rfl rfl ?_
        refine g_iconst C (v := 5) dX11_digestOfPeople_23 (by decide) rfl ?_
        refine g_icmp_ge C dX11_digestOfPeople_24 (tgt := 49) (by decide) (pc' := 27) rfl (fun c24 => absurd c24 (by decide)) (fun _ => ?_)
        refine g_ldc2 C kl_11_266 dX11_digestOfPeople_27 rfl ?_
        refine g_lload_n C 3 dX11_digestOfPeople_30 rfl rfl rfl ?_
        refine g_lmul C dX11_digestOfPeople_31 rfl ?_
        refine g_aload_n C 5 dX11_digestOfPeople_32 rfl rfl rfl ?_
        refine g_iload C 1 dX11_digestOfPeople_33 rfl rfl ?_
        refine g_iload C 0 dX11_digestOfPeople_35 rfl rfl ?_
        refine g_callVi C (As := [.int (nI (i)), .int (0)]) (q := (RX11, TX11, 8)) (k_X11_about l D b z hC (nI (i)) (0)) hw_11_280 (hGa) rfl (by decide) rfl rfl (Nat.le_of_ble_eq_true rfl) ⟨Nat.zero_le _, Nat.zero_le _⟩ dX11_digestOfPeople_37 (pc' := 40) rfl ?_
        rintro r2 h9 ⟨er, e9⟩
        subst h9; subst er
        refine g_i2l C dX11_digestOfPeople_40 rfl ?_
        refine g_ladd C dX11_digestOfPeople_41 rfl ?_
        refine g_topl (y := mx (hh) ((cAbout σ (nI (i)) (0)).toInt64)) (rfl) ?_
        refine g_lstore_n C ([(3, .long (mx (hh) ((cAbout σ (nI (i)) (0)).toInt64))), (7, .int (0)), (6, .int (nI (i))), (5, .int (nI (gN σ 8))), (1, .long (s)), (0, .ref (x))]) dX11_digestOfPeople_42 rfl (by decide) rfl rfl ?_
        refine g_iinc C (v := 1) 1 ([(7, .int (1)), (3, .long (mx (hh) ((cAbout σ (nI (i)) (0)).toInt64))), (6, .int (nI (i))), (5, .int (nI (gN σ 8))), (1, .long (s)), (0, .ref (x))]) dX11_digestOfPeople_43 rfl (by decide) (by decide) rfl rfl ?_
        refine g_goto C dX11_digestOfPeople_46 (tgt := 21) (by decide) ?_
        refine g_iload C 0 dX11_digestOfPeople_21 rfl rfl ?_
        refine g_iconst C (v := 5) dX11_digestOfPeople_23 (by decide) rfl ?_
        refine g_icmp_ge C dX11_digestOfPeople_24 (tgt := 49) (by decide) (pc' := 27) rfl (fun c24 => absurd c24 (by decide)) (fun _ => ?_)
        refine g_ldc2 C kl_11_266 dX11_digestOfPeople_27 rfl ?_
        refine g_lload_n C 1 dX11_digestOfPeople_30 rfl rfl rfl ?_
        refine g_lmul C dX11_digestOfPeople_31 rfl ?_
        refine g_aload_n C 5 dX11_digestOfPeople_32 rfl rfl rfl ?_
        refine g_iload C 2 dX11_digestOfPeople_33 rfl rfl ?_
        refine g_iload C 0 dX11_digestOfPeople_35 rfl rfl ?_
        refine g_callVi C (As := [.int (nI (i)), .int (1)]) (q := (RX11, TX11, 8)) (k_X11_about l D b z hC (nI (i)) (1)) hw_11_280 (hGa) rfl (by decide) rfl rfl (Nat.le_of_ble_eq_true rfl) ⟨Nat.zero_le _, Nat.zero_le _⟩ dX11_digestOfPeople_37 (pc' := 40) rfl ?_
        rintro r3 h9 ⟨er, e9⟩
        subst h9; subst er
        refine g_i2l C dX11_digestOfPeople_40 rfl ?_
        refine g_ladd C dX11_digestOfPeople_41 rfl ?_
        refine g_topl (y := mx (mx (hh) ((cAbout σ (nI (i)) (0)).toInt64)) ((cAbout σ (nI (i)) (1)).toInt64)) (rfl) ?_
        refine g_lstore_n C ([(3, .long (mx (mx (hh) ((cAbout σ (nI (i)) (0)).toInt64)) ((cAbout σ (nI (i)) (1)).toInt64))), (7, .int (1)), (6, .int (nI (i))), (5, .int (nI (gN σ 8))), (1, .long (s)), (0, .ref (x))]) dX11_digestOfPeople_42 rfl (by decide) rfl rfl ?_
        refine g_iinc C (v := 2) 1 ([(7, .int (2)), (3, .long (mx (mx (hh) ((cAbout σ (nI (i)) (0)).toInt64)) ((cAbout σ (nI (i)) (1)).toInt64))), (6, .int (nI (i))), (5, .int (nI (gN σ 8))), (1, .long (s)), (0, .ref (x))]) dX11_digestOfPeople_43 rfl (by decide) (by decide) rfl rfl ?_
        refine g_goto C dX11_digestOfPeople_46 (tgt := 21) (by decide) ?_
        refine g_iload C 0 dX11_digestOfPeople_21 rfl rfl ?_
        refine g_iconst C (v := 5) dX11_digestOfPeople_23 (by decide) rfl ?_
        refine g_icmp_ge C dX11_digestOfPeople_24 (tgt := 49) (by decide) (pc' := 27) rfl (fun c24 => absurd c24 (by decide)) (fun _ => ?_)
        refine g_ldc2 C kl_11_266 dX11_digestOfPeople_27 rfl ?_
        refine g_lload_n C 1 dX11_digestOfPeople_30 rfl rfl rfl ?_
        refine g_lmul C dX11_digestOfPeople_31 rfl ?_
        refine g_aload_n C 5 dX11_digestOfPeople_32 rfl rfl rfl ?_
        refine g_iload C 2 dX11_digestOfPeople_33 rfl rfl ?_
        refine g_iload C 0 dX11_digestOfPeople_35 rfl rfl ?_
        refine g_callVi C (As := [.int (nI (i)), .int (2)]) (q := (RX11, TX11, 8)) (k_X11_about l D b z hC (nI (i)) (2)) hw_11_280 (hGa) rfl (by decide) rfl rfl (Nat.le_of_ble_eq_true rfl) ⟨Nat.zero_le _, Nat.zero_le _⟩ dX11_digestOfPeople_37 (pc' := 40) rfl ?_
        rintro r4 h9 ⟨er, e9⟩
        subst h9; subst er
        refine g_i2l C dX11_digestOfPeople_40 rfl ?_
        refine g_ladd C dX11_digestOfPeople_41 rfl ?_
        refine g_topl (y := mx (mx (mx (hh) ((cAbout σ (nI (i)) (0)).toInt64)) ((cAbout σ (nI (i)) (1)).toInt64)) ((cAbout σ (nI (i)) (2)).toInt64)) (rfl) ?_
        refine g_lstore_n C ([(3, .long (mx (mx (mx (hh) ((cAbout σ (nI (i)) (0)).toInt64)) ((cAbout σ (nI (i)) (1)).toInt64)) ((cAbout σ (nI (i)) (2)).toInt64))), (7, .int (2)), (6, .int (nI (i))), (5, .int (nI (gN σ 8))), (1, .long (s)), (0, .ref (x))]) dX11_digestOfPeople_42 rfl (by decide) rfl rfl ?_
        refine g_iinc C (v := 3) 1 ([(7, .int (3)), (3, .long (mx (mx (mx (hh) ((cAbout σ (nI (i)) (0)).toInt64)) ((cAbout σ (nI (i)) (1)).toInt64)) ((cAbout σ (nI (i)) (2)).toInt64))), (6, .int (nI (i))), (5, .int (nI (gN σ 8))), (1, .long (s)), (0, .ref (x))]) dX11_digestOfPeople_43 rfl (by decide) (by decide) rfl rfl ?_
        refine g_goto C dX11_digestOfPeople_46 (tgt := 21) (by decide) ?_
        refine g_iload C 0 dX11_digestOfPeople_21 rfl rfl ?_
        refine g_iconst C (v := 5) dX11_digestOfPeople_23 (by decide) rfl ?_
        refine g_icmp_ge C dX11_digestOfPeople_24 (tgt := 49) (by decide) (pc' := 27) rfl (fun c24 => absurd c24 (by decide)) (fun _ => ?_)
        refine g_ldc2 C kl_11_266 dX11_digestOfPeople_27 rfl ?_
        refine g_lload_n C 1 dX11_digestOfPeople_30 rfl rfl rfl ?_
        refine g_lmul C dX11_digestOfPeople_31 rfl ?_
        refine g_aload_n C 5 dX11_digestOfPeople_32 rfl rfl rfl ?_
        refine g_iload C 2 dX11_digestOfPeople_33 rfl rfl ?_
        refine g_iload C 0 dX11_digestOfPeople_35 rfl rfl ?_
        refine g_callVi C (As := [.int (nI (i)), .int (3)]) (q := (RX11, TX11, 8)) (k_X11_about l D b z hC (nI (i)) (3)) hw_11_280 (hGa) rfl (by decide) rfl rfl (Nat.le_of_ble_eq_true rfl) ⟨Nat.zero_le _, Nat.zero_le _⟩ dX11_digestOfPeople_37 (pc' := 40) rfl ?_
        rintro r5 h9 ⟨er, e9⟩
        subst h9; subst er
        refine g_i2l C dX11_digestOfPeople_40 rfl ?_
        refine g_ladd C dX11_digestOfPeople_41 rfl ?_
        refine g_topl (y := mx (mx (mx (mx (hh) ((cAbout σ (nI (i)) (0)).toInt64)) ((cAbout σ (nI (i)) (1)).toInt64)) ((cAbout σ (nI (i)) (2)).toInt64)) ((cAbout σ (nI (i)) (3)).toInt64)) (rfl) ?_
        refine g_lstore_n C ([(3, .long (mx (mx (mx (mx (hh) ((cAbout σ (nI (i)) (0)).toInt64)) ((cAbout σ (nI (i)) (1)).toInt64)) ((cAbout σ (nI (i)) (2)).toInt64)) ((cAbout σ (nI (i)) (3)).toInt64))), (7, .int (3)), (6, .int (nI (i))), (5, .int (nI (gN σ 8))), (1, .long (s)), (0, .ref (x))]) dX11_digestOfPeople_42 rfl (by decide) rfl rfl ?_
        refine g_iinc C (v := 4) 1 ([(7, .int (4)), (3, .long (mx (mx (mx (mx (hh) ((cAbout σ (nI (i)) (0)).toInt64)) ((cAbout σ (nI (i)) (1)).toInt64)) ((cAbout σ (nI (i)) (2)).toInt64)) ((cAbout σ (nI (i)) (3)).toInt64))), (6, .int (nI (i))), (5, .int (nI (gN σ 8))), (1, .long (s)), (0, .ref (x))]) dX11_digestOfPeople_43 rfl (by decide) (by decide) rfl rfl ?_
        refine g_goto C dX11_digestOfPeople_46 (tgt := 21) (by decide) ?_
        refine g_iload C 0 dX11_digestOfPeople_21 rfl rfl ?_
        refine g_iconst C (v := 5) dX11_digestOfPeople_23 (by decide) rfl ?_
        refine g_icmp_ge C dX11_digestOfPeople_24 (tgt := 49) (by decide) (pc' := 27) rfl (fun c24 => absurd c24 (by decide)) (fun _ => ?_)
        refine g_ldc2 C kl_11_266 dX11_digestOfPeople_27 rfl ?_
        refine g_lload_n C 1 dX11_digestOfPeople_30 rfl rfl rfl ?_
        refine g_lmul C dX11_digestOfPeople_31 rfl ?_
        refine g_aload_n C 5 dX11_digestOfPeople_32 rfl rfl rfl ?_
        refine g_iload C 2 dX11_digestOfPeople_33 rfl rfl ?_
        refine g_iload C 0 dX11_digestOfPeople_35 rfl rfl ?_
        refine g_callVi C (As := [.int (nI (i)), .int (4)]) (q := (RX11, TX11, 8)) (k_X11_about l D b z hC (nI (i)) (4)) hw_11_280 (hGa) rfl (by decide) rfl rfl (Nat.le_of_ble_eq_true rfl) ⟨Nat.zero_le _, Nat.zero_le _⟩ dX11_digestOfPeople_37 (pc' := 40) rfl ?_
        rintro r6 h9 ⟨er, e9⟩
        subst h9; subst er
        refine g_i2l C dX11_digestOfPeople_40 rfl ?_
        refine g_ladd C dX11_digestOfPeople_41 rfl ?_
        refine g_topl (y := mx (mx (mx (mx (mx (hh) ((cAbout σ (nI (i)) (0)).toInt64)) ((cAbout σ (nI (i)) (1)).toInt64)) ((cAbout σ (nI (i)) (2)).toInt64)) ((cAbout σ (nI (i)) (3)).toInt64)) ((cAbout σ (nI (i)) (4)).toInt64)) (rfl) ?_
        refine g_lstore_n C ([(3, .long (mx (mx (mx (mx (mx (hh) ((cAbout σ (nI (i)) (0)).toInt64)) ((cAbout σ (nI (i)) (1)).toInt64)) ((cAbout σ (nI (i)) (2)).toInt64)) ((cAbout σ (nI (i)) (3)).toInt64)) ((cAbout σ (nI (i)) (4)).toInt64))), (7, .int (4)), (6, .int (nI (i))), (5, .int (nI (gN σ 8))), (1, .long (s)), (0, .ref (x))]) dX11_digestOfPeople_42 rfl (by decide) rfl rfl ?_
        refine g_iinc C (v := 5) 1 ([(7, .int (5)), (3, .long (mx (mx (mx (mx (mx (hh) ((cAbout σ (nI (i)) (0)).toInt64)) ((cAbout σ (nI (i)) (1)).toInt64)) ((cAbout σ (nI (i)) (2)).toInt64)) ((cAbout σ (nI (i)) (3)).toInt64)) ((cAbout σ (nI (i)) (4)).toInt64))), (6, .int (nI (i))), (5, .int (nI (gN σ 8))), (1, .long (s)), (0, .ref (x))]) dX11_digestOfPeople_43 rfl (by decide) (by decide) rfl rfl ?_
        refine g_goto C dX11_digestOfPeople_46 (tgt := 21) (by decide) ?_
        refine g_iload C 0 dX11_digestOfPeople_21 rfl rfl ?_
        refine g_iconst C (v := 5) dX11_digestOfPeople_23 (by decide) rfl ?_
        refine g_icmp_ge C dX11_digestOfPeople_24 (tgt := 49) (by decide) (pc' := 27) rfl (fun _ => ?_) (fun c24 => absurd (by decide) c24)
        refine g_iinc C (v := nI (i + 1)) 2 ([(6, .int (nI (i + 1))), (7, .int (5)), (3, .long (mx (mx (mx (mx (mx (hh) ((cAbout σ (nI (i)) (0)).toInt64)) ((cAbout σ (nI (i)) (1)).toInt64)) ((cAbout σ (nI (i)) (2)).toInt64)) ((cAbout σ (nI (i)) (3)).toInt64)) ((cAbout σ (nI (i)) (4)).toInt64))), (5, .int (nI (gN σ 8))), (1, .long (s)), (0, .ref (x))]) dX11_digestOfPeople_49 rfl (nI_1 _) (by decide) rfl rfl ?_
        refine g_goto C dX11_digestOfPeople_52 (tgt := 11) (by decide) ?_
        refine q_lsub [0, 3, 2, 4, 5] (L' := [(6, .int (nI (i + 1))), (5, .int (nI (gN σ 8))), (3, .long (mx (mx (mx (mx (mx (hh) ((cAbout σ (nI (i)) (0)).toInt64)) ((cAbout σ (nI (i)) (1)).toInt64)) ((cAbout σ (nI (i)) (2)).toInt64)) ((cAbout σ (nI (i)) (3)).toInt64)) ((cAbout σ (nI (i)) (4)).toInt64))), (1, .long (s)), (0, .ref (x))]) rfl ?_
        exact ih11 (i + 1) (mx (mx (mx (mx (mx (hh) ((cAbout σ (nI (i)) (0)).toInt64)) ((cAbout σ (nI (i)) (1)).toInt64)) ((cAbout σ (nI (i)) (2)).toInt64)) ((cAbout σ (nI (i)) (3)).toInt64)) ((cAbout σ (nI (i)) (4)).toInt64)) (by omega) (by omega) (by rw [hhe]; rfl)
  refine q_lsub [0, 1, 2, 4, 3] (L' := [(6, .int (0)), (5, .int (nI (gN σ 8))), (3, .long (s)), (1, .long (s)), (0, .ref (x))]) rfl ?_
  exact loop11 _ (0) (s) (Nat.lt_succ_self _) (by omega) (rfl)
set_option maxHeartbeats 4000000 in
set_option maxRecDepth 100000 in
theorem k_X11_digestOfLikely (l : Launch) (D : va_G) (b z : Nat) {h : qH} {x : Nat} {σ : sg} (hC : Cls D h x σ) (s : Int64) (k : Int32) : qMl l D b yX11_digestOfLikely cX11_digestOfLikely 7 3 81 [.ref (x), .long (s), .int (k)] h z (fun r h' => r = dgL σ s k ∧ h' = h) := by
  refine q_l (L := [(0, .ref (x)), (1, .long (s)), (3, .int (k))]) (own := RX11) (by decide) rfl (Nat.le_of_ble_eq_true rfl) rfl ?_
  intro X C ret
  obtain ⟨hIn, hGa, hSt, hPg, hOl, hPe, hBk, hTr, hIm⟩ := id hC
  replace hGa : GaAt h x (nI (gN σ 1)) := hGa
  replace hSt : StAt D h (x + 1) (tnS σ) (nI (gN σ 3)) (nI (gN σ 4)) := hSt
  replace hPg : PgAt D h (x + 3) (gB σ 17) (nI (gN σ 16)) := hPg
  replace hBk : BkAt D h (x + 40) (gB σ 14) (gB σ 15) (nI (gN σ 13)) := hBk
  obtain ⟨hI0, hI3, hI03, hI4, hI6, hI8, hI13, hI16, hIt, hIk, hI1, hIim, hI25, hI26, hI08⟩ := id hIn
  have hOl1 := hOl.1.1
  refine g_lload_n C 1 dX11_digestOfLikely_0 rfl rfl rfl ?_
  refine g_lstore C ([(4, .long (s)), (0, .ref (x)), (1, .long (s)), (3, .int (k))]) dX11_digestOfLikely_1 (by decide) rfl rfl ?_
  refine g_iconst C (v := 0) dX11_digestOfLikely_3 (by decide) rfl ?_
  refine g_istore C ([(6, .int (0)), (4, .long (s)), (0, .ref (x)), (1, .long (s)), (3, .int (k))]) dX11_digestOfLikely_4 (by decide) rfl rfl ?_
  refine g_iload C 0 dX11_digestOfLikely_6 rfl rfl ?_
  refine g_iconst C (v := 3) dX11_digestOfLikely_8 (by decide) rfl ?_
  refine g_icmp_ge C dX11_digestOfLikely_9 (tgt := 52) (by decide) (pc' := 12) rfl (fun c9 => absurd c9 (by decide)) (fun _ => ?_)
  refine g_ldc2 C kl_11_266 dX11_digestOfLikely_12 rfl ?_
  refine g_lload C 1 dX11_digestOfLikely_15 rfl rfl ?_
  refine g_lmul C dX11_digestOfLikely_17 rfl ?_
  refine g_aload_n C 2 dX11_digestOfLikely_18 rfl rfl rfl ?_
  refine g_iload_n C 4 dX11_digestOfLikely_19 rfl rfl rfl ?_
  refine g_iload C 0 dX11_digestOfLikely_20 rfl rfl ?_
  refine g_iconst C (v := 0) dX11_digestOfLikely_22 (by decide) rfl ?_
  refine g_callVl C (As := [.int (k), .int (0), .int (0)]) (q := (RX11, TX11, 8)) (k_X11_likely l D b z hC (k) (0) (0)) hw_11_302 (hGa) rfl (by decide) rfl rfl (Nat.le_of_ble_eq_true rfl) ⟨Nat.zero_le _, Nat.zero_le _⟩ dX11_digestOfLikely_23 (pc' := 26) rfl ?_
  rintro r1 h9 ⟨er, e9⟩
  subst h9; subst er
  refine g_ladd C dX11_digestOfLikely_26 rfl ?_
  refine g_topl (y := mx (s) (cLikely σ (k) (0) (0))) (rfl) ?_
  refine g_lstore C ([(4, .long (mx (s) (cLikely σ (k) (0) (0)))), (6, .int (0)), (0, .ref (x)), (1, .long (s)), (3, .int (k))]) dX11_digestOfLikely_27 (by decide) rfl rfl ?_
  refine g_ldc2 C kl_11_266 dX11_digestOfLikely_29 rfl ?_
  refine g_lload C 0 dX11_digestOfLikely_32 rfl rfl ?_
  refine g_lmul C dX11_digestOfLikely_34 rfl ?_
  refine g_aload_n C 2 dX11_digestOfLikely_35 rfl rfl rfl ?_
  refine g_iload_n C 4 dX11_digestOfLikely_36 rfl rfl rfl ?_
  refine g_iload C 1 dX11_digestOfLikely_37 rfl rfl ?_
  refine g_iconst C (v := 1) dX11_digestOfLikely_39 (by decide) rfl ?_
  refine g_callVl C (As := [.int (k), .int (0), .int (1)]) (q := (RX11, TX11, 8)) (k_X11_likely l D b z hC (k) (0) (1)) hw_11_302 (hGa) rfl (by decide) rfl rfl (Nat.le_of_ble_eq_true rfl) ⟨Nat.zero_le _, Nat.zero_le _⟩ dX11_digestOfLikely_40 (pc' := 43) rfl ?_
  rintro r2 h9 ⟨er, e9⟩
  subst h9; subst er
  refine g_ladd C dX11_digestOfLikely_43 rfl ?_
  refine g_topl (y := mx (mx (s) (cLikely σ (k) (0) (0))) (cLikely σ (k) (0) (1))) (rfl) ?_
  refine g_lstore C ([(4, .long (mx (mx (s) (cLikely σ (k) (0) (0))) (cLikely σ (k) (0) (1)))), (6, .int (0)), (0, .ref (x)), (1, .long (s)), (3, .int (k))]) dX11_digestOfLikely_44 (by decide) rfl rfl ?_
  refine g_iinc C (v := 1) 1 ([(6, .int (1)), (4, .long (mx (mx (s) (cLikely σ (k) (0) (0))) (cLikely σ (k) (0) (1)))), (0, .ref (x)), (1, .long (s)), (3, .int (k))]) dX11_digestOfLikely_46 rfl (by decide) (by decide) rfl rfl ?_
  refine g_goto C dX11_digestOfLikely_49 (tgt := 6) (by decide) ?_
  refine g_iload C 0 dX11_digestOfLikely_6 rfl rfl ?_
  refine g_iconst C (v := 3) dX11_digestOfLikely_8 (by decide) rfl ?_
  refine g_icmp_ge C dX11_digestOfLikely_9 (tgt := 52) (by decide) (pc' := 12) rfl (fun c9 => absurd c9 (by decide)) (fun _ => ?_)
  refine g_ldc2 C kl_11_266 dX11_digestOfLikely_12 rfl ?_
  refine g_lload C 1 dX11_digestOfLikely_15 rfl rfl ?_
  refine g_lmul C dX11_digestOfLikely_17 rfl ?_
  refine g_aload_n C 2 dX11_digestOfLikely_18 rfl rfl rfl ?_
  refine g_iload_n C 4 dX11_digestOfLikely_19 rfl rfl rfl ?_
  refine g_iload C 0 dX11_digestOfLikely_20 rfl rfl ?_
  refine g_iconst C (v := 0) dX11_digestOfLikely_22 (by decide) rfl ?_
  refine g_callVl C (As := [.int (k), .int (1), .int (0)]) (q := (RX11, TX11, 8)) (k_X11_likely l D b z hC (k) (1) (0)) hw_11_302 (hGa) rfl (by decide) rfl rfl (Nat.le_of_ble_eq_true rfl) ⟨Nat.zero_le _, Nat.zero_le _⟩ dX11_digestOfLikely_23 (pc' := 26) rfl ?_
  rintro r3 h9 ⟨er, e9⟩
  subst h9; subst er
  refine g_ladd C dX11_digestOfLikely_26 rfl ?_
  refine g_topl (y := mx (mx (mx (s) (cLikely σ (k) (0) (0))) (cLikely σ (k) (0) (1))) (cLikely σ (k) (1) (0))) (rfl) ?_
  refine g_lstore C ([(4, .long (mx (mx (mx (s) (cLikely σ (k) (0) (0))) (cLikely σ (k) (0) (1))) (cLikely σ (k) (1) (0)))), (6, .int (1)), (0, .ref (x)), (1, .long (s)), (3, .int (k))]) dX11_digestOfLikely_27 (by decide) rfl rfl ?_
  refine g_ldc2 C kl_11_266 dX11_digestOfLikely_29 rfl ?_
  refine g_lload C 0 dX11_digestOfLikely_32 rfl rfl ?_
  refine g_lmul C dX11_digestOfLikely_34 rfl ?_
  refine g_aload_n C 2 dX11_digestOfLikely_35 rfl rfl rfl ?_
  refine g_iload_n C 4 dX11_digestOfLikely_36 rfl rfl rfl ?_
  refine g_iload C 1 dX11_digestOfLikely_37 rfl rfl ?_
  refine g_iconst C (v := 1) dX11_digestOfLikely_39 (by decide) rfl ?_
  refine g_callVl C (As := [.int (k), .int (1), .int (1)]) (q := (RX11, TX11, 8)) (k_X11_likely l D b z hC (k) (1) (1)) hw_11_302 (hGa) rfl (by decide) rfl rfl (Nat.le_of_ble_eq_true rfl) ⟨Nat.zero_le _, Nat.zero_le _⟩ dX11_digestOfLikely_40 (pc' := 43) rfl ?_
  rintro r4 h9 ⟨er, e9⟩
  subst h9; subst er
  refine g_ladd C dX11_digestOfLikely_43 rfl ?_
  refine g_topl (y := mx (mx (mx (mx (s) (cLikely σ (k) (0) (0))) (cLikely σ (k) (0) (1))) (cLikely σ (k) (1) (0))) (cLikely σ (k) (1) (1))) (rfl) ?_
  refine g_lstore C ([(4, .long (mx (mx (mx (mx (s) (cLikely σ (k) (0) (0))) (cLikely σ (k) (0) (1))) (cLikely σ (k) (1) (0))) (cLikely σ (k) (1) (1)))), (6, .int (1)), (0, .ref (x)), (1, .long (s)), (3, .int (k))]) dX11_digestOfLikely_44 (by decide) rfl rfl ?_
  refine g_iinc C (v := 2) 1 ([(6, .int (2)), (4, .long (mx (mx (mx (mx (s) (cLikely σ (k) (0) (0))) (cLikely σ (k) (0) (1))) (cLikely σ (k) (1) (0))) (cLikely σ (k) (1) (1)))), (0, .ref (x)), (1, .long (s)), (3, .int (k))]) dX11_digestOfLikely_46 rfl (by decide) (by decide) rfl rfl ?_
  refine g_goto C dX11_digestOfLikely_49 (tgt := 6) (by decide) ?_
  refine g_iload C 0 dX11_digestOfLikely_6 rfl rfl ?_
  refine g_iconst C (v := 3) dX11_digestOfLikely_8 (by decide) rfl ?_
  refine g_icmp_ge C dX11_digestOfLikely_9 (tgt := 52) (by decide) (pc' := 12) rfl (fun c9 => absurd c9 (by decide)) (fun _ => ?_)
  refine g_ldc2 C kl_11_266 dX11_digestOfLikely_12 rfl ?_
  refine g_lload C 1 dX11_digestOfLikely_15 rfl rfl ?_
  refine g_lmul C dX11_digestOfLikely_17 rfl ?_
  refine g_aload_n C 2 dX11_digestOfLikely_18 rfl rfl rfl ?_
  refine g_iload_n C 4 dX11_digestOfLikely_19 rfl rfl rfl ?_
  refine g_iload C 0 dX11_digestOfLikely_20 rfl rfl ?_
  refine g_iconst C (v := 0) dX11_digestOfLikely_22 (by decide) rfl ?_
  refine g_callVl C (As := [.int (k), .int (2), .int (0)]) (q := (RX11, TX11, 8)) (k_X11_likely l D b z hC (k) (2) (0)) hw_11_302 (hGa) rfl (by decide) rfl rfl (Nat.le_of_ble_eq_true rfl) ⟨Nat.zero_le _, Nat.zero_le _⟩ dX11_digestOfLikely_23 (pc' := 26) rfl ?_
  rintro r5 h9 ⟨er, e9⟩
  subst h9; subst er
  refine g_ladd C dX11_digestOfLikely_26 rfl ?_
  refine g_topl (y := mx (mx (mx (mx (mx (s) (cLikely σ (k) (0) (0))) (cLikely σ (k) (0) (1))) (cLikely σ (k) (1) (0))) (cLikely σ (k) (1) (1))) (cLikely σ (k) (2) (0))) (rfl) ?_
  refine g_lstore C ([(4, .long (mx (mx (mx (mx (mx (s) (cLikely σ (k) (0) (0))) (cLikely σ (k) (0) (1))) (cLikely σ (k) (1) (0))) (cLikely σ (k) (1) (1))) (cLikely σ (k) (2) (0)))), (6, .int (2)), (0, .ref (x)), (1, .long (s)), (3, .int (k))]) dX11_digestOfLikely_27 (by decide) rfl rfl ?_
  refine g_ldc2 C kl_11_266 dX11_digestOfLikely_29 rfl ?_
  refine g_lload C 0 dX11_digestOfLikely_32 rfl rfl ?_
  refine g_lmul C dX11_digestOfLikely_34 rfl ?_
  refine g_aload_n C 2 dX11_digestOfLikely_35 rfl rfl rfl ?_
  refine g_iload_n C 4 dX11_digestOfLikely_36 rfl rfl rfl ?_
  refine g_iload C 1 dX11_digestOfLikely_37 rfl rfl ?_
  refine g_iconst C (v := 1) dX11_digestOfLikely_39 (by decide) rfl ?_
  refine g_callVl C (As := [.int (k), .int (2), .int (1)]) (q := (RX11, TX11, 8)) (k_X11_likely l D b z hC (k) (2) (1)) hw_11_302 (hGa) rfl (by decide) rfl rfl (Nat.le_of_ble_eq_true rfl) ⟨Nat.zero_le _, Nat.zero_le _⟩ dX11_digestOfLikely_40 (pc' := 43) rfl ?_
  rintro r6 h9 ⟨er, e9⟩
  subst h9; subst er
  refine g_ladd C dX11_digestOfLikely_43 rfl ?_
  refine g_topl (y := mx (mx (mx (mx (mx (mx (s) (cLikely σ (k) (0) (0))) (cLikely σ (k) (0) (1))) (cLikely σ (k) (1) (0))) (cLikely σ (k) (1) (1))) (cLikely σ (k) (2) (0))) (cLikely σ (k) (2) (1))) (rfl) ?_
  refine g_lstore C ([(4, .long (mx (mx (mx (mx (mx (mx (s) (cLikely σ (k) (0) (0))) (cLikely σ (k) (0) (1))) (cLikely σ (k) (1) (0))) (cLikely σ (k) (1) (1))) (cLikely σ (k) (2) (0))) (cLikely σ (k) (2) (1)))), (6, .int (2)), (0, .ref (x)), (1, .long (s)), (3, .int (k))]) dX11_digestOfLikely_44 (by decide) rfl rfl ?_
  refine g_iinc C (v := 3) 1 ([(6, .int (3)), (4, .long (mx (mx (mx (mx (mx (mx (s) (cLikely σ (k) (0) (0))) (cLikely σ (k) (0) (1))) (cLikely σ (k) (1) (0))) (cLikely σ (k) (1) (1))) (cLikely σ (k) (2) (0))) (cLikely σ (k) (2) (1)))), (0, .ref (x)), (1, .long (s)), (3, .int (k))]) dX11_digestOfLikely_46 rfl (by decide) (by decide) rfl rfl ?_
  refine g_goto C dX11_digestOfLikely_49 (tgt := 6) (by decide) ?_
  refine g_iload C 0 dX11_digestOfLikely_6 rfl rfl ?_
  refine g_iconst C (v := 3) dX11_digestOfLikely_8 (by decide) rfl ?_
  refine g_icmp_ge C dX11_digestOfLikely_9 (tgt := 52) (by decide) (pc' := 12) rfl (fun _ => ?_) (fun c9 => absurd (by decide) c9)
  refine g_lload C 1 dX11_digestOfLikely_52 rfl rfl ?_
  exact ret _ _ _ _ dX11_digestOfLikely_54 (⟨rfl, rfl⟩)
set_option maxHeartbeats 4000000 in
set_option maxRecDepth 100000 in
theorem k_X11_digestOfComing (l : Launch) (D : va_G) (b z : Nat) {h : qH} {x : Nat} {σ : sg} (hC : Cls D h x σ) (s : Int64) : qMl l D b yX11_digestOfComing cX11_digestOfComing 6 4 107 [.ref (x), .long (s)] h z (fun r h' => r = dgC σ s ∧ h' = h) := by
  refine q_l (L := [(0, .ref (x)), (1, .long (s))]) (own := RX11) (by decide) rfl (Nat.le_of_ble_eq_true rfl) rfl ?_
  intro X C ret
  obtain ⟨hIn, hGa, hSt, hPg, hOl, hPe, hBk, hTr, hIm⟩ := id hC
  replace hGa : GaAt h x (nI (gN σ 1)) := hGa
  replace hSt : StAt D h (x + 1) (tnS σ) (nI (gN σ 3)) (nI (gN σ 4)) := hSt
  replace hPg : PgAt D h (x + 3) (gB σ 17) (nI (gN σ 16)) := hPg
  replace hBk : BkAt D h (x + 40) (gB σ 14) (gB σ 15) (nI (gN σ 13)) := hBk
  obtain ⟨hI0, hI3, hI03, hI4, hI6, hI8, hI13, hI16, hIt, hIk, hI1, hIim, hI25, hI26, hI08⟩ := id hIn
  have hOl1 := hOl.1.1
  refine g_lload_n C 1 dX11_digestOfComing_0 rfl rfl rfl ?_
  refine g_lstore_n C ([(3, .long (s)), (0, .ref (x)), (1, .long (s))]) dX11_digestOfComing_1 rfl (by decide) rfl rfl ?_
  refine g_iconst C (v := 1) dX11_digestOfComing_2 (by decide) rfl ?_
  refine g_istore C ([(5, .int (1)), (3, .long (s)), (0, .ref (x)), (1, .long (s))]) dX11_digestOfComing_3 (by decide) rfl rfl ?_
  refine g_iload C 0 dX11_digestOfComing_5 rfl rfl ?_
  refine g_iconst C (v := 4) dX11_digestOfComing_7 (by decide) rfl ?_
  refine g_icmp_gt C dX11_digestOfComing_8 (tgt := 31) (by decide) (pc' := 11) rfl (fun c8 => absurd c8 (by decide)) (fun _ => ?_)
  refine g_ldc2 C kl_11_266 dX11_digestOfComing_11 rfl ?_
  refine g_lload_n C 1 dX11_digestOfComing_14 rfl rfl rfl ?_
  refine g_lmul C dX11_digestOfComing_15 rfl ?_
  refine g_aload_n C 2 dX11_digestOfComing_16 rfl rfl rfl ?_
  refine g_iload C 0 dX11_digestOfComing_17 rfl rfl ?_
  refine g_callVi C (As := [.int (1)]) (q := (RX11, TX11, 8)) (k_X11_told l D b z hC (1)) hw_11_283 (hGa) rfl (by decide) rfl rfl (Nat.le_of_ble_eq_true rfl) ⟨Nat.zero_le _, Nat.zero_le _⟩ dX11_digestOfComing_19 (pc' := 22) rfl ?_
  rintro r1 h9 ⟨er, e9⟩
  subst h9; subst er
  refine g_i2l C dX11_digestOfComing_22 rfl ?_
  refine g_ladd C dX11_digestOfComing_23 rfl ?_
  refine g_topl (y := mx (s) ((cTold σ (1)).toInt64)) (rfl) ?_
  refine g_lstore_n C ([(3, .long (mx (s) ((cTold σ (1)).toInt64))), (5, .int (1)), (0, .ref (x)), (1, .long (s))]) dX11_digestOfComing_24 rfl (by decide) rfl rfl ?_
  refine g_iinc C (v := 2) 1 ([(5, .int (2)), (3, .long (mx (s) ((cTold σ (1)).toInt64))), (0, .ref (x)), (1, .long (s))]) dX11_digestOfComing_25 rfl (by decide) (by decide) rfl rfl ?_
  refine g_goto C dX11_digestOfComing_28 (tgt := 5) (by decide) ?_
  refine g_iload C 0 dX11_digestOfComing_5 rfl rfl ?_
  refine g_iconst C (v := 4) dX11_digestOfComing_7 (by decide) rfl ?_
  refine g_icmp_gt C dX11_digestOfComing_8 (tgt := 31) (by decide) (pc' := 11) rfl (fun c8 => absurd c8 (by decide)) (fun _ => ?_)
  refine g_ldc2 C kl_11_266 dX11_digestOfComing_11 rfl ?_
  refine g_lload_n C 1 dX11_digestOfComing_14 rfl rfl rfl ?_
  refine g_lmul C dX11_digestOfComing_15 rfl ?_
  refine g_aload_n C 2 dX11_digestOfComing_16 rfl rfl rfl ?_
  refine g_iload C 0 dX11_digestOfComing_17 rfl rfl ?_
  refine g_callVi C (As := [.int (2)]) (q := (RX11, TX11, 8)) (k_X11_told l D b z hC (2)) hw_11_283 (hGa) rfl (by decide) rfl rfl (Nat.le_of_ble_eq_true rfl) ⟨Nat.zero_le _, Nat.zero_le _⟩ dX11_digestOfComing_19 (pc' := 22) rfl ?_
  rintro r2 h9 ⟨er, e9⟩
  subst h9; subst er
  refine g_i2l C dX11_digestOfComing_22 rfl ?_
  refine g_ladd C dX11_digestOfComing_23 rfl ?_
  refine g_topl (y := mx (mx (s) ((cTold σ (1)).toInt64)) ((cTold σ (2)).toInt64)) (rfl) ?_
  refine g_lstore_n C ([(3, .long (mx (mx (s) ((cTold σ (1)).toInt64)) ((cTold σ (2)).toInt64))), (5, .int (2)), (0, .ref (x)), (1, .long (s))]) dX11_digestOfComing_24 rfl (by decide) rfl rfl ?_
  refine g_iinc C (v := 3) 1 ([(5, .int (3)), (3, .long (mx (mx (s) ((cTold σ (1)).toInt64)) ((cTold σ (2)).toInt64))), (0, .ref (x)), (1, .long (s))]) dX11_digestOfComing_25 rfl (by decide) (by decide) rfl rfl ?_
  refine g_goto C dX11_digestOfComing_28 (tgt := 5) (by decide) ?_
  refine g_iload C 0 dX11_digestOfComing_5 rfl rfl ?_
  refine g_iconst C (v := 4) dX11_digestOfComing_7 (by decide) rfl ?_
  refine g_icmp_gt C dX11_digestOfComing_8 (tgt := 31) (by decide) (pc' := 11) rfl (fun c8 => absurd c8 (by decide)) (fun _ => ?_)
  refine g_ldc2 C kl_11_266 dX11_digestOfComing_11 rfl ?_
  refine g_lload_n C 1 dX11_digestOfComing_14 rfl rfl rfl ?_
  refine g_lmul C dX11_digestOfComing_15 rfl ?_
  refine g_aload_n C 2 dX11_digestOfComing_16 rfl rfl rfl ?_
  refine g_iload C 0 dX11_digestOfComing_17 rfl rfl ?_
  refine g_callVi C (As := [.int (3)]) (q := (RX11, TX11, 8)) (k_X11_told l D b z hC (3)) hw_11_283 (hGa) rfl (by decide) rfl rfl (Nat.le_of_ble_eq_true rfl) ⟨Nat.zero_le _, Nat.zero_le _⟩ dX11_digestOfComing_19 (pc' := 22) rfl ?_
  rintro r3 h9 ⟨er, e9⟩
  subst h9; subst er
  refine g_i2l C dX11_digestOfComing_22 rfl ?_
  refine g_ladd C dX11_digestOfComing_23 rfl ?_
  refine g_topl (y := mx (mx (mx (s) ((cTold σ (1)).toInt64)) ((cTold σ (2)).toInt64)) ((cTold σ (3)).toInt64)) (rfl) ?_
  refine g_lstore_n C ([(3, .long (mx (mx (mx (s) ((cTold σ (1)).toInt64)) ((cTold σ (2)).toInt64)) ((cTold σ (3)).toInt64))), (5, .int (3)), (0, .ref (x)), (1, .long (s))]) dX11_digestOfComing_24 rfl (by decide) rfl rfl ?_
  refine g_iinc C (v := 4) 1 ([(5, .int (4)), (3, .long (mx (mx (mx (s) ((cTold σ (1)).toInt64)) ((cTold σ (2)).toInt64)) ((cTold σ (3)).toInt64))), (0, .ref (x)), (1, .long (s))]) dX11_digestOfComing_25 rfl (by decide) (by decide) rfl rfl ?_
  refine g_goto C dX11_digestOfComing_28 (tgt := 5) (by decide) ?_
  refine g_iload C 0 dX11_digestOfComing_5 rfl rfl ?_
  refine g_iconst C (v := 4) dX11_digestOfComing_7 (by decide) rfl ?_
  refine g_icmp_gt C dX11_digestOfComing_8 (tgt := 31) (by decide) (pc' := 11) rfl (fun c8 => absurd c8 (by decide)) (fun _ => ?_)
  refine g_ldc2 C kl_11_266 dX11_digestOfComing_11 rfl ?_
  refine g_lload_n C 1 dX11_digestOfComing_14 rfl rfl rfl ?_
  refine g_lmul C dX11_digestOfComing_15 rfl ?_
  refine g_aload_n C 2 dX11_digestOfComing_16 rfl rfl rfl ?_
  refine g_iload C 0 dX11_digestOfComing_17 rfl rfl ?_
  refine g_callVi C (As := [.int (4)]) (q := (RX11, TX11, 8)) (k_X11_told l D b z hC (4)) hw_11_283 (hGa) rfl (by decide) rfl rfl (Nat.le_of_ble_eq_true rfl) ⟨Nat.zero_le _, Nat.zero_le _⟩ dX11_digestOfComing_19 (pc' := 22) rfl ?_
  rintro r4 h9 ⟨er, e9⟩
  subst h9; subst er
  refine g_i2l C dX11_digestOfComing_22 rfl ?_
  refine g_ladd C dX11_digestOfComing_23 rfl ?_
  refine g_topl (y := mx (mx (mx (mx (s) ((cTold σ (1)).toInt64)) ((cTold σ (2)).toInt64)) ((cTold σ (3)).toInt64)) ((cTold σ (4)).toInt64)) (rfl) ?_
  refine g_lstore_n C ([(3, .long (mx (mx (mx (mx (s) ((cTold σ (1)).toInt64)) ((cTold σ (2)).toInt64)) ((cTold σ (3)).toInt64)) ((cTold σ (4)).toInt64))), (5, .int (4)), (0, .ref (x)), (1, .long (s))]) dX11_digestOfComing_24 rfl (by decide) rfl rfl ?_
  refine g_iinc C (v := 5) 1 ([(5, .int (5)), (3, .long (mx (mx (mx (mx (s) ((cTold σ (1)).toInt64)) ((cTold σ (2)).toInt64)) ((cTold σ (3)).toInt64)) ((cTold σ (4)).toInt64))), (0, .ref (x)), (1, .long (s))]) dX11_digestOfComing_25 rfl (by decide) (by decide) rfl rfl ?_
  refine g_goto C dX11_digestOfComing_28 (tgt := 5) (by decide) ?_
  refine g_iload C 0 dX11_digestOfComing_5 rfl rfl ?_
  refine g_iconst C (v := 4) dX11_digestOfComing_7 (by decide) rfl ?_
  refine g_icmp_gt C dX11_digestOfComing_8 (tgt := 31) (by decide) (pc' := 11) rfl (fun _ => ?_) (fun c8 => absurd (by decide) c8)
  refine g_aload_n C 2 dX11_digestOfComing_31 rfl rfl rfl ?_
  refine g_lload_n C 1 dX11_digestOfComing_32 rfl rfl rfl ?_
  refine g_iconst C (v := 1) dX11_digestOfComing_33 (by decide) rfl ?_
  refine g_callVl C (As := [.long (mx (mx (mx (mx (s) ((cTold σ (1)).toInt64)) ((cTold σ (2)).toInt64)) ((cTold σ (3)).toInt64)) ((cTold σ (4)).toInt64)), .int (1)]) (q := (RX11, TX11, 8)) (k_X11_digestOfLikely l D b z hC (mx (mx (mx (mx (s) ((cTold σ (1)).toInt64)) ((cTold σ (2)).toInt64)) ((cTold σ (3)).toInt64)) ((cTold σ (4)).toInt64)) (1)) hw_11_286 (hGa) rfl (by decide) rfl rfl (Nat.le_of_ble_eq_true rfl) ⟨Nat.zero_le _, Nat.zero_le _⟩ dX11_digestOfComing_34 (pc' := 37) rfl ?_
  rintro r5 h9 ⟨er, e9⟩
  subst h9; subst er
  refine g_lstore_n C ([(3, .long (dgL σ (mx (mx (mx (mx (s) ((cTold σ (1)).toInt64)) ((cTold σ (2)).toInt64)) ((cTold σ (3)).toInt64)) ((cTold σ (4)).toInt64)) (1))), (5, .int (5)), (0, .ref (x)), (1, .long (s))]) dX11_digestOfComing_37 rfl (by decide) rfl rfl ?_
  refine g_aload_n C 2 dX11_digestOfComing_38 rfl rfl rfl ?_
  refine g_lload_n C 0 dX11_digestOfComing_39 rfl rfl rfl ?_
  refine g_bipush C (v := 6) dX11_digestOfComing_40 (by decide) rfl ?_
  refine g_callVl C (As := [.long (dgL σ (mx (mx (mx (mx (s) ((cTold σ (1)).toInt64)) ((cTold σ (2)).toInt64)) ((cTold σ (3)).toInt64)) ((cTold σ (4)).toInt64)) (1)), .int (6)]) (q := (RX11, TX11, 8)) (k_X11_digestOfLikely l D b z hC (dgL σ (mx (mx (mx (mx (s) ((cTold σ (1)).toInt64)) ((cTold σ (2)).toInt64)) ((cTold σ (3)).toInt64)) ((cTold σ (4)).toInt64)) (1)) (6)) hw_11_286 (hGa) rfl (by decide) rfl rfl (Nat.le_of_ble_eq_true rfl) ⟨Nat.zero_le _, Nat.zero_le _⟩ dX11_digestOfComing_42 (pc' := 45) rfl ?_
  rintro r6 h9 ⟨er, e9⟩
  subst h9; subst er
  refine g_lstore_n C ([(3, .long (dgL σ (dgL σ (mx (mx (mx (mx (s) ((cTold σ (1)).toInt64)) ((cTold σ (2)).toInt64)) ((cTold σ (3)).toInt64)) ((cTold σ (4)).toInt64)) (1)) (6))), (5, .int (5)), (0, .ref (x)), (1, .long (s))]) dX11_digestOfComing_45 rfl (by decide) rfl rfl ?_
  refine g_ldc2 C kl_11_266 dX11_digestOfComing_46 rfl ?_
  refine g_lload_n C 0 dX11_digestOfComing_49 rfl rfl rfl ?_
  refine g_lmul C dX11_digestOfComing_50 rfl ?_
  refine g_aload_n C 2 dX11_digestOfComing_51 rfl rfl rfl ?_
  refine g_callVi C (As := []) (q := (RX11, TX11, 8)) (k_X11_likeliest l D b z hC) hw_11_290 (hGa) rfl (by decide) rfl rfl (Nat.le_of_ble_eq_true rfl) ⟨Nat.zero_le _, Nat.zero_le _⟩ dX11_digestOfComing_52 (pc' := 55) rfl ?_
  rintro r7 h9 ⟨er, e9⟩
  subst h9; subst er
  refine g_i2l C dX11_digestOfComing_55 rfl ?_
  refine g_ladd C dX11_digestOfComing_56 rfl ?_
  refine g_topl (y := mx (dgL σ (dgL σ (mx (mx (mx (mx (s) ((cTold σ (1)).toInt64)) ((cTold σ (2)).toInt64)) ((cTold σ (3)).toInt64)) ((cTold σ (4)).toInt64)) (1)) (6)) ((cLikeliest σ).toInt64)) (rfl) ?_
  refine g_lstore_n C ([(3, .long (mx (dgL σ (dgL σ (mx (mx (mx (mx (s) ((cTold σ (1)).toInt64)) ((cTold σ (2)).toInt64)) ((cTold σ (3)).toInt64)) ((cTold σ (4)).toInt64)) (1)) (6)) ((cLikeliest σ).toInt64))), (5, .int (5)), (0, .ref (x)), (1, .long (s))]) dX11_digestOfComing_57 rfl (by decide) rfl rfl ?_
  refine g_ldc2 C kl_11_266 dX11_digestOfComing_58 rfl ?_
  refine g_lload_n C 0 dX11_digestOfComing_61 rfl rfl rfl ?_
  refine g_lmul C dX11_digestOfComing_62 rfl ?_
  refine g_aload_n C 2 dX11_digestOfComing_63 rfl rfl rfl ?_
  refine g_callVi C (As := []) (q := (RX11, TX11, 8)) (k_X11_ways l D b z hC) hw_11_293 (hGa) rfl (by decide) rfl rfl (Nat.le_of_ble_eq_true rfl) ⟨Nat.zero_le _, Nat.zero_le _⟩ dX11_digestOfComing_64 (pc' := 67) rfl ?_
  rintro r8 h9 ⟨er, e9⟩
  subst h9; subst er
  refine g_i2l C dX11_digestOfComing_67 rfl ?_
  refine g_ladd C dX11_digestOfComing_68 rfl ?_
  refine g_topl (y := mx (mx (dgL σ (dgL σ (mx (mx (mx (mx (s) ((cTold σ (1)).toInt64)) ((cTold σ (2)).toInt64)) ((cTold σ (3)).toInt64)) ((cTold σ (4)).toInt64)) (1)) (6)) ((cLikeliest σ).toInt64)) ((cWays σ).toInt64)) (rfl) ?_
  refine g_lstore_n C ([(3, .long (mx (mx (dgL σ (dgL σ (mx (mx (mx (mx (s) ((cTold σ (1)).toInt64)) ((cTold σ (2)).toInt64)) ((cTold σ (3)).toInt64)) ((cTold σ (4)).toInt64)) (1)) (6)) ((cLikeliest σ).toInt64)) ((cWays σ).toInt64))), (5, .int (5)), (0, .ref (x)), (1, .long (s))]) dX11_digestOfComing_69 rfl (by decide) rfl rfl ?_
  refine g_ldc2 C kl_11_266 dX11_digestOfComing_70 rfl ?_
  refine g_lload_n C 0 dX11_digestOfComing_73 rfl rfl rfl ?_
  refine g_lmul C dX11_digestOfComing_74 rfl ?_
  refine g_aload_n C 2 dX11_digestOfComing_75 rfl rfl rfl ?_
  refine g_iconst C (v := 1) dX11_digestOfComing_76 (by decide) rfl ?_
  refine g_callVi C (As := [.int (1)]) (q := (RX11, TX11, 8)) (k_X11_sure l D b z hC (1)) hw_11_296 (hGa) rfl (by decide) rfl rfl (Nat.le_of_ble_eq_true rfl) ⟨Nat.zero_le _, Nat.zero_le _⟩ dX11_digestOfComing_77 (pc' := 80) rfl ?_
  rintro r9 h9 ⟨er, e9⟩
  subst h9; subst er
  refine g_i2l C dX11_digestOfComing_80 rfl ?_
  refine g_ladd C dX11_digestOfComing_81 rfl ?_
  refine g_topl (y := mx (mx (mx (dgL σ (dgL σ (mx (mx (mx (mx (s) ((cTold σ (1)).toInt64)) ((cTold σ (2)).toInt64)) ((cTold σ (3)).toInt64)) ((cTold σ (4)).toInt64)) (1)) (6)) ((cLikeliest σ).toInt64)) ((cWays σ).toInt64)) ((cSure σ (1)).toInt64)) (rfl) ?_
  refine g_lstore_n C ([(3, .long (mx (mx (mx (dgL σ (dgL σ (mx (mx (mx (mx (s) ((cTold σ (1)).toInt64)) ((cTold σ (2)).toInt64)) ((cTold σ (3)).toInt64)) ((cTold σ (4)).toInt64)) (1)) (6)) ((cLikeliest σ).toInt64)) ((cWays σ).toInt64)) ((cSure σ (1)).toInt64))), (5, .int (5)), (0, .ref (x)), (1, .long (s))]) dX11_digestOfComing_82 rfl (by decide) rfl rfl ?_
  refine g_ldc2 C kl_11_266 dX11_digestOfComing_83 rfl ?_
  refine g_lload_n C 0 dX11_digestOfComing_86 rfl rfl rfl ?_
  refine g_lmul C dX11_digestOfComing_87 rfl ?_
  refine g_aload_n C 2 dX11_digestOfComing_88 rfl rfl rfl ?_
  refine g_iconst C (v := 2) dX11_digestOfComing_89 (by decide) rfl ?_
  refine g_iconst C (v := 5) dX11_digestOfComing_90 (by decide) rfl ?_
  refine g_iconst C (v := 0) dX11_digestOfComing_91 (by decide) rfl ?_
  refine g_callVl C (As := [.int (2), .int (5), .int (0)]) (q := (RX11, TX11, 8)) (k_X11_look l D b z hC (2) (5) (0)) hw_11_299 (hGa) rfl (by decide) rfl rfl (Nat.le_of_ble_eq_true rfl) ⟨Nat.zero_le _, Nat.zero_le _⟩ dX11_digestOfComing_92 (pc' := 95) rfl ?_
  rintro r10 h9 ⟨er, e9⟩
  subst h9; subst er
  refine g_ladd C dX11_digestOfComing_95 rfl ?_
  refine g_topl (y := mx (mx (mx (mx (dgL σ (dgL σ (mx (mx (mx (mx (s) ((cTold σ (1)).toInt64)) ((cTold σ (2)).toInt64)) ((cTold σ (3)).toInt64)) ((cTold σ (4)).toInt64)) (1)) (6)) ((cLikeliest σ).toInt64)) ((cWays σ).toInt64)) ((cSure σ (1)).toInt64)) (cLook σ (2) (5) (0))) (rfl) ?_
  refine g_lstore_n C ([(3, .long (mx (mx (mx (mx (dgL σ (dgL σ (mx (mx (mx (mx (s) ((cTold σ (1)).toInt64)) ((cTold σ (2)).toInt64)) ((cTold σ (3)).toInt64)) ((cTold σ (4)).toInt64)) (1)) (6)) ((cLikeliest σ).toInt64)) ((cWays σ).toInt64)) ((cSure σ (1)).toInt64)) (cLook σ (2) (5) (0)))), (5, .int (5)), (0, .ref (x)), (1, .long (s))]) dX11_digestOfComing_96 rfl (by decide) rfl rfl ?_
  refine g_ldc2 C kl_11_266 dX11_digestOfComing_97 rfl ?_
  refine g_lload_n C 0 dX11_digestOfComing_100 rfl rfl rfl ?_
  refine g_lmul C dX11_digestOfComing_101 rfl ?_
  refine g_aload_n C 2 dX11_digestOfComing_102 rfl rfl rfl ?_
  refine g_iconst C (v := 2) dX11_digestOfComing_103 (by decide) rfl ?_
  refine g_iconst C (v := 5) dX11_digestOfComing_104 (by decide) rfl ?_
  refine g_iconst C (v := 1) dX11_digestOfComing_105 (by decide) rfl ?_
  refine g_callVl C (As := [.int (2), .int (5), .int (1)]) (q := (RX11, TX11, 8)) (k_X11_look l D b z hC (2) (5) (1)) hw_11_299 (hGa) rfl (by decide) rfl rfl (Nat.le_of_ble_eq_true rfl) ⟨Nat.zero_le _, Nat.zero_le _⟩ dX11_digestOfComing_106 (pc' := 109) rfl ?_
  rintro r11 h9 ⟨er, e9⟩
  subst h9; subst er
  refine g_ladd C dX11_digestOfComing_109 rfl ?_
  refine g_topl (y := mx (mx (mx (mx (mx (dgL σ (dgL σ (mx (mx (mx (mx (s) ((cTold σ (1)).toInt64)) ((cTold σ (2)).toInt64)) ((cTold σ (3)).toInt64)) ((cTold σ (4)).toInt64)) (1)) (6)) ((cLikeliest σ).toInt64)) ((cWays σ).toInt64)) ((cSure σ (1)).toInt64)) (cLook σ (2) (5) (0))) (cLook σ (2) (5) (1))) (rfl) ?_
  exact ret _ _ _ _ dX11_digestOfComing_110 (⟨rfl, rfl⟩)
set_option maxHeartbeats 4000000 in
set_option maxRecDepth 100000 in
theorem k_X11_digest (l : Launch) (D : va_G) (b z : Nat) {h : qH} {x : Nat} {σ : sg} (hC : Cls D h x σ)  : qMl l D b yX11_digest cX11_digest 4 6 136 [.ref (x)] h z (fun r h' => r = cDigest σ ∧ h' = h) := by
  refine q_l (L := [(0, .ref (x))]) (own := RX11) (by decide) rfl (Nat.le_of_ble_eq_true rfl) rfl ?_
  intro X C ret
  obtain ⟨hIn, hGa, hSt, hPg, hOl, hPe, hBk, hTr, hIm⟩ := id hC
  replace hGa : GaAt h x (nI (gN σ 1)) := hGa
  replace hSt : StAt D h (x + 1) (tnS σ) (nI (gN σ 3)) (nI (gN σ 4)) := hSt
  replace hPg : PgAt D h (x + 3) (gB σ 17) (nI (gN σ 16)) := hPg
  replace hBk : BkAt D h (x + 40) (gB σ 14) (gB σ 15) (nI (gN σ 13)) := hBk
  obtain ⟨hI0, hI3, hI03, hI4, hI6, hI8, hI13, hI16, hIt, hIk, hI1, hIim, hI25, hI26, hI08⟩ := id hIn
  have hOl1 := hOl.1.1
  refine g_aload_n C 0 dX11_digest_0 rfl rfl rfl ?_
  refine g_ldc2 C kl_11_257 dX11_digest_1 rfl ?_
  refine g_callVl C (As := [.long (821)]) (q := (RX11, TX11, 8)) (k_X11_digestOfPeople l D b z hC (821)) hw_11_259 (hGa) rfl (by decide) rfl rfl (Nat.le_of_ble_eq_true rfl) ⟨Nat.zero_le _, Nat.zero_le _⟩ dX11_digest_4 (pc' := 7) rfl ?_
  rintro r1 h9 ⟨er, e9⟩
  subst h9; subst er
  refine g_lstore_n C ([(1, .long (dgP σ (821) (gN σ 8))), (0, .ref (x))]) dX11_digest_7 rfl (by decide) rfl rfl ?_
  refine g_aload_n C 1 dX11_digest_8 rfl rfl rfl ?_
  refine gf_11_19 C (hGa) (v := .ref (x + 1)) rfl dX11_digest_9 rfl ?_
  refine g_callVi C (As := []) (q := (RX9, TX9, 3)) (k_X9_isRead l D b z hIn.e hSt) hw_11_103 (hSt.1) rfl (by decide) rfl rfl (Nat.le_of_ble_eq_true rfl) ⟨Nat.zero_le _, Nat.zero_le _⟩ dX11_digest_12 (pc' := 15) rfl ?_
  rintro r2 h9 ⟨⟨er, hp12⟩ | ⟨er, hp12⟩, e9⟩
  · subst h9; subst er
    refine g_if_eq C dX11_digest_15 (tgt := 24) (by decide) (pc' := 18) rfl (fun c15 => absurd c15 (by decide)) (fun _ => ?_)
    refine g_aload_n C 1 dX11_digest_18 rfl rfl rfl ?_
    refine g_lload_n C 0 dX11_digest_19 rfl rfl rfl ?_
    refine g_callVl C (As := [.long (dgP σ (821) (gN σ 8))]) (q := (RX11, TX11, 8)) (k_X11_digestOfComing l D b z hC (dgP σ (821) (gN σ 8))) hw_11_263 (hGa) rfl (by decide) rfl rfl (Nat.le_of_ble_eq_true rfl) ⟨Nat.zero_le _, Nat.zero_le _⟩ dX11_digest_20 (pc' := 23) rfl ?_
    rintro r3 h9 ⟨er, e9⟩
    subst h9; subst er
    refine g_lstore_n C ([(1, .long (dgC σ (dgP σ (821) (gN σ 8)))), (0, .ref (x))]) dX11_digest_23 rfl (by decide) rfl rfl ?_
    refine g_iconst C (v := 0) dX11_digest_24 (by decide) rfl ?_
    refine g_istore_n C ([(3, .int (0)), (1, .long (dgC σ (dgP σ (821) (gN σ 8)))), (0, .ref (x))]) dX11_digest_25 rfl (by decide) rfl rfl ?_
    refine g_iload_n C 0 dX11_digest_26 rfl rfl rfl ?_
    refine g_iconst C (v := 4) dX11_digest_27 (by decide) rfl ?_
    refine g_icmp_gt C dX11_digest_28 (tgt := 50) (by decide) (pc' := 31) rfl (fun c28 => absurd c28 (by decide)) (fun _ => ?_)
    refine g_ldc2 C kl_11_266 dX11_digest_31 rfl ?_
    refine g_lload_n C 1 dX11_digest_34 rfl rfl rfl ?_
    refine g_lmul C dX11_digest_35 rfl ?_
    refine g_aload_n C 2 dX11_digest_36 rfl rfl rfl ?_
    refine g_iload_n C 0 dX11_digest_37 rfl rfl rfl ?_
    refine g_callVi C (As := [.int (0)]) (q := (RX11, TX11, 8)) (k_X11_wrong l D b z hC (0)) hw_11_268 (hGa) rfl (by decide) rfl rfl (Nat.le_of_ble_eq_true rfl) ⟨Nat.zero_le _, Nat.zero_le _⟩ dX11_digest_38 (pc' := 41) rfl ?_
    rintro r4 h9 ⟨er, e9⟩
    subst h9; subst er
    refine g_i2l C dX11_digest_41 rfl ?_
    refine g_ladd C dX11_digest_42 rfl ?_
    refine g_topl (y := mx (dgC σ (dgP σ (821) (gN σ 8))) ((cWrong σ (0)).toInt64)) (rfl) ?_
    refine g_lstore_n C ([(1, .long (mx (dgC σ (dgP σ (821) (gN σ 8))) ((cWrong σ (0)).toInt64))), (3, .int (0)), (0, .ref (x))]) dX11_digest_43 rfl (by decide) rfl rfl ?_
    refine g_iinc C (v := 1) 1 ([(3, .int (1)), (1, .long (mx (dgC σ (dgP σ (821) (gN σ 8))) ((cWrong σ (0)).toInt64))), (0, .ref (x))]) dX11_digest_44 rfl (by decide) (by decide) rfl rfl ?_
    refine g_goto C dX11_digest_47 (tgt := 26) (by decide) ?_
    refine g_iload_n C 0 dX11_digest_26 rfl rfl rfl ?_
    refine g_iconst C (v := 4) dX11_digest_27 (by decide) rfl ?_
    refine g_icmp_gt C dX11_digest_28 (tgt := 50) (by decide) (pc' := 31) rfl (fun c28 => absurd c28 (by decide)) (fun _ => ?_)
    refine g_ldc2 C kl_11_266 dX11_digest_31 rfl ?_
    refine g_lload_n C 1 dX11_digest_34 rfl rfl rfl ?_
    refine g_lmul C dX11_digest_35 rfl ?_
    refine g_aload_n C 2 dX11_digest_36 rfl rfl rfl ?_
    refine g_iload_n C 0 dX11_digest_37 rfl rfl rfl ?_
    refine g_callVi C (As := [.int (1)]) (q := (RX11, TX11, 8)) (k_X11_wrong l D b z hC (1)) hw_11_268 (hGa) rfl (by decide) rfl rfl (Nat.le_of_ble_eq_true rfl) ⟨Nat.zero_le _, Nat.zero_le _⟩ dX11_digest_38 (pc' := 41) rfl ?_
    rintro r5 h9 ⟨er, e9⟩
    subst h9; subst er
    refine g_i2l C dX11_digest_41 rfl ?_
    refine g_ladd C dX11_digest_42 rfl ?_
    refine g_topl (y := mx (mx (dgC σ (dgP σ (821) (gN σ 8))) ((cWrong σ (0)).toInt64)) ((cWrong σ (1)).toInt64)) (rfl) ?_
    refine g_lstore_n C ([(1, .long (mx (mx (dgC σ (dgP σ (821) (gN σ 8))) ((cWrong σ (0)).toInt64)) ((cWrong σ (1)).toInt64))), (3, .int (1)), (0, .ref (x))]) dX11_digest_43 rfl (by decide) rfl rfl ?_
    refine g_iinc C (v := 2) 1 ([(3, .int (2)), (1, .long (mx (mx (dgC σ (dgP σ (821) (gN σ 8))) ((cWrong σ (0)).toInt64)) ((cWrong σ (1)).toInt64))), (0, .ref (x))]) dX11_digest_44 rfl (by decide) (by decide) rfl rfl ?_
    refine g_goto C dX11_digest_47 (tgt := 26) (by decide) ?_
    refine g_iload_n C 0 dX11_digest_26 rfl rfl rfl ?_
    refine g_iconst C (v := 4) dX11_digest_27 (by decide) rfl ?_
    refine g_icmp_gt C dX11_digest_28 (tgt := 50) (by decide) (pc' := 31) rfl (fun c28 => absurd c28 (by decide)) (fun _ => ?_)
    refine g_ldc2 C kl_11_266 dX11_digest_31 rfl ?_
    refine g_lload_n C 1 dX11_digest_34 rfl rfl rfl ?_
    refine g_lmul C dX11_digest_35 rfl ?_
    refine g_aload_n C 2 dX11_digest_36 rfl rfl rfl ?_
    refine g_iload_n C 0 dX11_digest_37 rfl rfl rfl ?_
    refine g_callVi C (As := [.int (2)]) (q := (RX11, TX11, 8)) (k_X11_wrong l D b z hC (2)) hw_11_268 (hGa) rfl (by decide) rfl rfl (Nat.le_of_ble_eq_true rfl) ⟨Nat.zero_le _, Nat.zero_le _⟩ dX11_digest_38 (pc' := 41) rfl ?_
    rintro r6 h9 ⟨er, e9⟩
    subst h9; subst er
    refine g_i2l C dX11_digest_41 rfl ?_
    refine g_ladd C dX11_digest_42 rfl ?_
    refine g_topl (y := mx (mx (mx (dgC σ (dgP σ (821) (gN σ 8))) ((cWrong σ (0)).toInt64)) ((cWrong σ (1)).toInt64)) ((cWrong σ (2)).toInt64)) (rfl) ?_
    refine g_lstore_n C ([(1, .long (mx (mx (mx (dgC σ (dgP σ (821) (gN σ 8))) ((cWrong σ (0)).toInt64)) ((cWrong σ (1)).toInt64)) ((cWrong σ (2)).toInt64))), (3, .int (2)), (0, .ref (x))]) dX11_digest_43 rfl (by decide) rfl rfl ?_
    refine g_iinc C (v := 3) 1 ([(3, .int (3)), (1, .long (mx (mx (mx (dgC σ (dgP σ (821) (gN σ 8))) ((cWrong σ (0)).toInt64)) ((cWrong σ (1)).toInt64)) ((cWrong σ (2)).toInt64))), (0, .ref (x))]) dX11_digest_44 rfl (by decide) (by decide) rfl rfl ?_
    refine g_goto C dX11_digest_47 (tgt := 26) (by decide) ?_
    refine g_iload_n C 0 dX11_digest_26 rfl rfl rfl ?_
    refine g_iconst C (v := 4) dX11_digest_27 (by decide) rfl ?_
    refine g_icmp_gt C dX11_digest_28 (tgt := 50) (by decide) (pc' := 31) rfl (fun c28 => absurd c28 (by decide)) (fun _ => ?_)
    refine g_ldc2 C kl_11_266 dX11_digest_31 rfl ?_
    refine g_lload_n C 1 dX11_digest_34 rfl rfl rfl ?_
    refine g_lmul C dX11_digest_35 rfl ?_
    refine g_aload_n C 2 dX11_digest_36 rfl rfl rfl ?_
    refine g_iload_n C 0 dX11_digest_37 rfl rfl rfl ?_
    refine g_callVi C (As := [.int (3)]) (q := (RX11, TX11, 8)) (k_X11_wrong l D b z hC (3)) hw_11_268 (hGa) rfl (by decide) rfl rfl (Nat.le_of_ble_eq_true rfl) ⟨Nat.zero_le _, Nat.zero_le _⟩ dX11_digest_38 (pc' := 41) rfl ?_
    rintro r7 h9 ⟨er, e9⟩
    subst h9; subst er
    refine g_i2l C dX11_digest_41 rfl ?_
    refine g_ladd C dX11_digest_42 rfl ?_
    refine g_topl (y := mx (mx (mx (mx (dgC σ (dgP σ (821) (gN σ 8))) ((cWrong σ (0)).toInt64)) ((cWrong σ (1)).toInt64)) ((cWrong σ (2)).toInt64)) ((cWrong σ (3)).toInt64)) (rfl) ?_
    refine g_lstore_n C ([(1, .long (mx (mx (mx (mx (dgC σ (dgP σ (821) (gN σ 8))) ((cWrong σ (0)).toInt64)) ((cWrong σ (1)).toInt64)) ((cWrong σ (2)).toInt64)) ((cWrong σ (3)).toInt64))), (3, .int (3)), (0, .ref (x))]) dX11_digest_43 rfl (by decide) rfl rfl ?_
    refine g_iinc C (v := 4) 1 ([(3, .int (4)), (1, .long (mx (mx (mx (mx (dgC σ (dgP σ (821) (gN σ 8))) ((cWrong σ (0)).toInt64)) ((cWrong σ (1)).toInt64)) ((cWrong σ (2)).toInt64)) ((cWrong σ (3)).toInt64))), (0, .ref (x))]) dX11_digest_44 rfl (by decide) (by decide) rfl rfl ?_
    refine g_goto C dX11_digest_47 (tgt := 26) (by decide) ?_
    refine g_iload_n C 0 dX11_digest_26 rfl rfl rfl ?_
    refine g_iconst C (v := 4) dX11_digest_27 (by decide) rfl ?_
    refine g_icmp_gt C dX11_digest_28 (tgt := 50) (by decide) (pc' := 31) rfl (fun c28 => absurd c28 (by decide)) (fun _ => ?_)
    refine g_ldc2 C kl_11_266 dX11_digest_31 rfl ?_
    refine g_lload_n C 1 dX11_digest_34 rfl rfl rfl ?_
    refine g_lmul C dX11_digest_35 rfl ?_
    refine g_aload_n C 2 dX11_digest_36 rfl rfl rfl ?_
    refine g_iload_n C 0 dX11_digest_37 rfl rfl rfl ?_
    refine g_callVi C (As := [.int (4)]) (q := (RX11, TX11, 8)) (k_X11_wrong l D b z hC (4)) hw_11_268 (hGa) rfl (by decide) rfl rfl (Nat.le_of_ble_eq_true rfl) ⟨Nat.zero_le _, Nat.zero_le _⟩ dX11_digest_38 (pc' := 41) rfl ?_
    rintro r8 h9 ⟨er, e9⟩
    subst h9; subst er
    refine g_i2l C dX11_digest_41 rfl ?_
    refine g_ladd C dX11_digest_42 rfl ?_
    refine g_topl (y := mx (mx (mx (mx (mx (dgC σ (dgP σ (821) (gN σ 8))) ((cWrong σ (0)).toInt64)) ((cWrong σ (1)).toInt64)) ((cWrong σ (2)).toInt64)) ((cWrong σ (3)).toInt64)) ((cWrong σ (4)).toInt64)) (rfl) ?_
    refine g_lstore_n C ([(1, .long (mx (mx (mx (mx (mx (dgC σ (dgP σ (821) (gN σ 8))) ((cWrong σ (0)).toInt64)) ((cWrong σ (1)).toInt64)) ((cWrong σ (2)).toInt64)) ((cWrong σ (3)).toInt64)) ((cWrong σ (4)).toInt64))), (3, .int (4)), (0, .ref (x))]) dX11_digest_43 rfl (by decide) rfl rfl ?_
    refine g_iinc C (v := 5) 1 ([(3, .int (5)), (1, .long (mx (mx (mx (mx (mx (dgC σ (dgP σ (821) (gN σ 8))) ((cWrong σ (0)).toInt64)) ((cWrong σ (1)).toInt64)) ((cWrong σ (2)).toInt64)) ((cWrong σ (3)).toInt64)) ((cWrong σ (4)).toInt64))), (0, .ref (x))]) dX11_digest_44 rfl (by decide) (by decide) rfl rfl ?_
    refine g_goto C dX11_digest_47 (tgt := 26) (by decide) ?_
    refine g_iload_n C 0 dX11_digest_26 rfl rfl rfl ?_
    refine g_iconst C (v := 4) dX11_digest_27 (by decide) rfl ?_
    refine g_icmp_gt C dX11_digest_28 (tgt := 50) (by decide) (pc' := 31) rfl (fun _ => ?_) (fun c28 => absurd (by decide) c28)
    refine g_ldc2 C kl_11_266 dX11_digest_50 rfl ?_
    refine g_lload_n C 1 dX11_digest_53 rfl rfl rfl ?_
    refine g_lmul C dX11_digest_54 rfl ?_
    refine g_aload_n C 2 dX11_digest_55 rfl rfl rfl ?_
    refine g_callVi C (As := []) (q := (RX11, TX11, 8)) (k_X11_earliest l D b z hC) hw_11_271 (hGa) rfl (by decide) rfl rfl (Nat.le_of_ble_eq_true rfl) ⟨Nat.zero_le _, Nat.zero_le _⟩ dX11_digest_56 (pc' := 59) rfl ?_
    rintro r9 h9 ⟨er, e9⟩
    subst h9; subst er
    refine g_i2l C dX11_digest_59 rfl ?_
    refine g_ladd C dX11_digest_60 rfl ?_
    refine g_topl (y := mx (mx (mx (mx (mx (mx (dgC σ (dgP σ (821) (gN σ 8))) ((cWrong σ (0)).toInt64)) ((cWrong σ (1)).toInt64)) ((cWrong σ (2)).toInt64)) ((cWrong σ (3)).toInt64)) ((cWrong σ (4)).toInt64)) ((cEarliest σ).toInt64)) (rfl) ?_
    refine g_lstore_n C ([(1, .long (mx (mx (mx (mx (mx (mx (dgC σ (dgP σ (821) (gN σ 8))) ((cWrong σ (0)).toInt64)) ((cWrong σ (1)).toInt64)) ((cWrong σ (2)).toInt64)) ((cWrong σ (3)).toInt64)) ((cWrong σ (4)).toInt64)) ((cEarliest σ).toInt64))), (3, .int (5)), (0, .ref (x))]) dX11_digest_61 rfl (by decide) rfl rfl ?_
    refine g_iconst C (v := 0) dX11_digest_62 (by decide) rfl ?_
    refine g_istore_n C ([(3, .int (0)), (1, .long (mx (mx (mx (mx (mx (mx (dgC σ (dgP σ (821) (gN σ 8))) ((cWrong σ (0)).toInt64)) ((cWrong σ (1)).toInt64)) ((cWrong σ (2)).toInt64)) ((cWrong σ (3)).toInt64)) ((cWrong σ (4)).toInt64)) ((cEarliest σ).toInt64))), (0, .ref (x))]) dX11_digest_63 rfl (by decide) rfl rfl ?_
    have loop64 : ∀ (N : Nat) (i : Nat) (hh : Int64), gN σ 16 - i < N → (i ≤ gN σ 16) → (hh = dgG (gB σ 17) (mx (mx (mx (mx (mx (mx (dgC σ (dgP σ (821) (gN σ 8))) ((cWrong σ (0)).toInt64)) ((cWrong σ (1)).toInt64)) ((cWrong σ (2)).toInt64)) ((cWrong σ (3)).toInt64)) ((cWrong σ (4)).toInt64)) ((cEarliest σ).toInt64)) i) → qG X 0 0 z h 64 [(3, .int (nI (i))), (1, .long (hh)), (0, .ref (x))] [] := by
      intro N
      induction N with
      | zero => intro i hh hm; exact absurd hm (Nat.not_lt_zero _)
      | succ N ih64 =>
        intro i hh hm hi hhe
        refine g_iload_n C 0 dX11_digest_64 rfl rfl rfl ?_
        refine g_aload_n C 2 dX11_digest_65 rfl rfl rfl ?_
        refine gf_11_13 C (hGa) (v := .ref (x + 3)) rfl dX11_digest_66 rfl ?_
        refine gf_11_67 C (hPg.1) (v := .int (nI (gN σ 16))) rfl dX11_digest_69 rfl ?_
        refine g_icmp_ge C dX11_digest_72 (tgt := 97) (by decide) (pc' := 75) rfl ?_ ?_
        · intro c72
          replace c72 := (nI_leI (a := gN σ 16) (b := i) (by omega) (by omega)).mp c72
          refine g_iconst C (v := 0) dX11_digest_97 (by decide) rfl ?_
          refine g_istore_n C ([(3, .int (0)), (1, .long (hh)), (0, .ref (x))]) dX11_digest_98 rfl (by decide) rfl rfl ?_
          refine g_iload_n C 0 dX11_digest_99 rfl rfl rfl ?_
          refine g_bipush C (v := 10) dX11_digest_100 (by decide) rfl ?_
          refine g_icmp_ge C dX11_digest_102 (tgt := 124) (by decide) (pc' := 105) rfl (fun c102 => absurd c102 (by decide)) (fun _ => ?_)
          refine g_ldc2 C kl_11_266 dX11_digest_105 rfl ?_
          refine g_lload_n C 1 dX11_digest_108 rfl rfl rfl ?_
          refine g_lmul C dX11_digest_109 rfl ?_
          refine g_aload_n C 2 dX11_digest_110 rfl rfl rfl ?_
          refine g_iload_n C 0 dX11_digest_111 rfl rfl rfl ?_
          refine g_callVi C (As := [.int (0)]) (q := (RX11, TX11, 8)) (k_X11_count l D b z hC (0)) hw_11_277 (hGa) rfl (by decide) rfl rfl (Nat.le_of_ble_eq_true rfl) ⟨Nat.zero_le _, Nat.zero_le _⟩ dX11_digest_112 (pc' := 115) rfl ?_
          rintro r10 h9 ⟨er, e9⟩
          subst h9; subst er
          refine g_i2l C dX11_digest_115 rfl ?_
          refine g_ladd C dX11_digest_116 rfl ?_
          refine g_topl (y := mx (hh) ((cCount σ (0)).toInt64)) (rfl) ?_
          refine g_lstore_n C ([(1, .long (mx (hh) ((cCount σ (0)).toInt64))), (3, .int (0)), (0, .ref (x))]) dX11_digest_117 rfl (by decide) rfl rfl ?_
          refine g_iinc C (v := 1) 1 ([(3, .int (1)), (1, .long (mx (hh) ((cCount σ (0)).toInt64))), (0, .ref (x))]) dX11_digest_118 rfl (by decide) (by decide) rfl rfl ?_
          refine g_goto C dX11_digest_121 (tgt := 99) (by decide) ?_
          refine g_iload_n C 0 dX11_digest_99 rfl rfl rfl ?_
          refine g_bipush C (v := 10) dX11_digest_100 (by decide) rfl ?_
          refine g_icmp_ge C dX11_digest_102 (tgt := 124) (by decide) (pc' := 105) rfl (fun c102 => absurd c102 (by decide)) (fun _ => ?_)
          refine g_ldc2 C kl_11_266 dX11_digest_105 rfl ?_
          refine g_lload_n C 1 dX11_digest_108 rfl rfl rfl ?_
          refine g_lmul C dX11_digest_109 rfl ?_
          refine g_aload_n C 2 dX11_digest_110 rfl rfl rfl ?_
          refine g_iload_n C 0 dX11_digest_111 rfl rfl rfl ?_
          refine g_callVi C (As := [.int (1)]) (q := (RX11, TX11, 8)) (k_X11_count l D b z hC (1)) hw_11_277 (hGa) rfl (by decide) rfl rfl (Nat.le_of_ble_eq_true rfl) ⟨Nat.zero_le _, Nat.zero_le _⟩ dX11_digest_112 (pc' := 115) rfl ?_
          rintro r11 h9 ⟨er, e9⟩
          subst h9; subst er
          refine g_i2l C dX11_digest_115 rfl ?_
          refine g_ladd C dX11_digest_116 rfl ?_
          refine g_topl (y := mx (mx (hh) ((cCount σ (0)).toInt64)) ((cCount σ (1)).toInt64)) (rfl) ?_
          refine g_lstore_n C ([(1, .long (mx (mx (hh) ((cCount σ (0)).toInt64)) ((cCount σ (1)).toInt64))), (3, .int (1)), (0, .ref (x))]) dX11_digest_117 rfl (by decide) rfl rfl ?_
          refine g_iinc C (v := 2) 1 ([(3, .int (2)), (1, .long (mx (mx (hh) ((cCount σ (0)).toInt64)) ((cCount σ (1)).toInt64))), (0, .ref (x))]) dX11_digest_118 rfl (by decide) (by decide) rfl rfl ?_
          refine g_goto C dX11_digest_121 (tgt := 99) (by decide) ?_
          refine g_iload_n C 0 dX11_digest_99 rfl rfl rfl ?_
          refine g_bipush C (v := 10) dX11_digest_100 (by decide) rfl ?_
          refine g_icmp_ge C dX11_digest_102 (tgt := 124) (by decide) (pc' := 105) rfl (fun c102 => absurd c102 (by decide)) (fun _ => ?_)
          refine g_ldc2 C kl_11_266 dX11_digest_105 rfl ?_
          refine g_lload_n C 1 dX11_digest_108 rfl rfl rfl ?_
          refine g_lmul C dX11_digest_109 rfl ?_
          refine g_aload_n C 2 dX11_digest_110 rfl rfl rfl ?_
          refine g_iload_n C 0 dX11_digest_111 rfl rfl rfl ?_
          refine g_callVi C (As := [.int (2)]) (q := (RX11, TX11, 8)) (k_X11_count l D b z hC (2)) hw_11_277 (hGa) rfl (by decide) rfl rfl (Nat.le_of_ble_eq_true rfl) ⟨Nat.zero_le _, Nat.zero_le _⟩ dX11_digest_112 (pc' := 115) rfl ?_
          rintro r12 h9 ⟨er, e9⟩
          subst h9; subst er
          refine g_i2l C dX11_digest_115 rfl ?_
          refine g_ladd C dX11_digest_116 rfl ?_
          refine g_topl (y := mx (mx (mx (hh) ((cCount σ (0)).toInt64)) ((cCount σ (1)).toInt64)) ((cCount σ (2)).toInt64)) (rfl) ?_
          refine g_lstore_n C ([(1, .long (mx (mx (mx (hh) ((cCount σ (0)).toInt64)) ((cCount σ (1)).toInt64)) ((cCount σ (2)).toInt64))), (3, .int (2)), (0, .ref (x))]) dX11_digest_117 rfl (by decide) rfl rfl ?_
          refine g_iinc C (v := 3) 1 ([(3, .int (3)), (1, .long (mx (mx (mx (hh) ((cCount σ (0)).toInt64)) ((cCount σ (1)).toInt64)) ((cCount σ (2)).toInt64))), (0, .ref (x))]) dX11_digest_118 rfl (by decide) (by decide) rfl rfl ?_
          refine g_goto C dX11_digest_121 (tgt := 99) (by decide) ?_
          refine g_iload_n C 0 dX11_digest_99 rfl rfl rfl ?_
          refine g_bipush C (v := 10) dX11_digest_100 (by decide) rfl ?_
          refine g_icmp_ge C dX11_digest_102 (tgt := 124) (by decide) (pc' := 105) rfl (fun c102 => absurd c102 (by decide)) (fun _ => ?_)
          refine g_ldc2 C kl_11_266 dX11_digest_105 rfl ?_
          refine g_lload_n C 1 dX11_digest_108 rfl rfl rfl ?_
          refine g_lmul C dX11_digest_109 rfl ?_
          refine g_aload_n C 2 dX11_digest_110 rfl rfl rfl ?_
          refine g_iload_n C 0 dX11_digest_111 rfl rfl rfl ?_
          refine g_callVi C (As := [.int (3)]) (q := (RX11, TX11, 8)) (k_X11_count l D b z hC (3)) hw_11_277 (hGa) rfl (by decide) rfl rfl (Nat.le_of_ble_eq_true rfl) ⟨Nat.zero_le _, Nat.zero_le _⟩ dX11_digest_112 (pc' := 115) rfl ?_
          rintro r13 h9 ⟨er, e9⟩
          subst h9; subst er
          refine g_i2l C dX11_digest_115 rfl ?_
          refine g_ladd C dX11_digest_116 rfl ?_
          refine g_topl (y := mx (mx (mx (mx (hh) ((cCount σ (0)).toInt64)) ((cCount σ (1)).toInt64)) ((cCount σ (2)).toInt64)) ((cCount σ (3)).toInt64)) (rfl) ?_
          refine g_lstore_n C ([(1, .long (mx (mx (mx (mx (hh) ((cCount σ (0)).toInt64)) ((cCount σ (1)).toInt64)) ((cCount σ (2)).toInt64)) ((cCount σ (3)).toInt64))), (3, .int (3)), (0, .ref (x))]) dX11_digest_117 rfl (by decide) rfl rfl ?_
          refine g_iinc C (v := 4) 1 ([(3, .int (4)), (1, .long (mx (mx (mx (mx (hh) ((cCount σ (0)).toInt64)) ((cCount σ (1)).toInt64)) ((cCount σ (2)).toInt64)) ((cCount σ (3)).toInt64))), (0, .ref (x))]) dX11_digest_118 rfl (by decide) (by decide) rfl rfl ?_
          refine g_goto C dX11_digest_121 (tgt := 99) (by decide) ?_
          refine g_iload_n C 0 dX11_digest_99 rfl rfl rfl ?_
          refine g_bipush C (v := 10) dX11_digest_100 (by decide) rfl ?_
          refine g_icmp_ge C dX11_digest_102 (tgt := 124) (by decide) (pc' := 105) rfl (fun c102 => absurd c102 (by decide)) (fun _ => ?_)
          refine g_ldc2 C kl_11_266 dX11_digest_105 rfl ?_
          refine g_lload_n C 1 dX11_digest_108 rfl rfl rfl ?_
          refine g_lmul C dX11_digest_109 rfl ?_
          refine g_aload_n C 2 dX11_digest_110 rfl rfl rfl ?_
          refine g_iload_n C 0 dX11_digest_111 rfl rfl rfl ?_
          refine g_callVi C (As := [.int (4)]) (q := (RX11, TX11, 8)) (k_X11_count l D b z hC (4)) hw_11_277 (hGa) rfl (by decide) rfl rfl (Nat.le_of_ble_eq_true rfl) ⟨Nat.zero_le _, Nat.zero_le _⟩ dX11_digest_112 (pc' := 115) rfl ?_
          rintro r14 h9 ⟨er, e9⟩
          subst h9; subst er
          refine g_i2l C dX11_digest_115 rfl ?_
          refine g_ladd C dX11_digest_116 rfl ?_
          refine g_topl (y := mx (mx (mx (mx (mx (hh) ((cCount σ (0)).toInt64)) ((cCount σ (1)).toInt64)) ((cCount σ (2)).toInt64)) ((cCount σ (3)).toInt64)) ((cCount σ (4)).toInt64)) (rfl) ?_
          refine g_lstore_n C ([(1, .long (mx (mx (mx (mx (mx (hh) ((cCount σ (0)).toInt64)) ((cCount σ (1)).toInt64)) ((cCount σ (2)).toInt64)) ((cCount σ (3)).toInt64)) ((cCount σ (4)).toInt64))), (3, .int (4)), (0, .ref (x))]) dX11_digest_117 rfl (by decide) rfl rfl ?_
          refine g_iinc C (v := 5) 1 ([(3, .int (5)), (1, .long (mx (mx (mx (mx (mx (hh) ((cCount σ (0)).toInt64)) ((cCount σ (1)).toInt64)) ((cCount σ (2)).toInt64)) ((cCount σ (3)).toInt64)) ((cCount σ (4)).toInt64))), (0, .ref (x))]) dX11_digest_118 rfl (by decide) (by decide) rfl rfl ?_
          refine g_goto C dX11_digest_121 (tgt := 99) (by decide) ?_
          refine g_iload_n C 0 dX11_digest_99 rfl rfl rfl ?_
          refine g_bipush C (v := 10) dX11_digest_100 (by decide) rfl ?_
          refine g_icmp_ge C dX11_digest_102 (tgt := 124) (by decide) (pc' := 105) rfl (fun c102 => absurd c102 (by decide)) (fun _ => ?_)
          refine g_ldc2 C kl_11_266 dX11_digest_105 rfl ?_
          refine g_lload_n C 1 dX11_digest_108 rfl rfl rfl ?_
          refine g_lmul C dX11_digest_109 rfl ?_
          refine g_aload_n C 2 dX11_digest_110 rfl rfl rfl ?_
          refine g_iload_n C 0 dX11_digest_111 rfl rfl rfl ?_
          refine g_callVi C (As := [.int (5)]) (q := (RX11, TX11, 8)) (k_X11_count l D b z hC (5)) hw_11_277 (hGa) rfl (by decide) rfl rfl (Nat.le_of_ble_eq_true rfl) ⟨Nat.zero_le _, Nat.zero_le _⟩ dX11_digest_112 (pc' := 115) rfl ?_
          rintro r15 h9 ⟨er, e9⟩
          subst h9; subst er
          refine g_i2l C dX11_digest_115 rfl ?_
          refine g_ladd C dX11_digest_116 rfl ?_
          refine g_topl (y := mx (mx (mx (mx (mx (mx (hh) ((cCount σ (0)).toInt64)) ((cCount σ (1)).toInt64)) ((cCount σ (2)).toInt64)) ((cCount σ (3)).toInt64)) ((cCount σ (4)).toInt64)) ((cCount σ (5)).toInt64)) (rfl) ?_
          refine g_lstore_n C ([(1, .long (mx (mx (mx (mx (mx (mx (hh) ((cCount σ (0)).toInt64)) ((cCount σ (1)).toInt64)) ((cCount σ (2)).toInt64)) ((cCount σ (3)).toInt64)) ((cCount σ (4)).toInt64)) ((cCount σ (5)).toInt64))), (3, .int (5)), (0, .ref (x))]) dX11_digest_117 rfl (by decide) rfl rfl ?_
          refine g_iinc C (v := 6) 1 ([(3, .int (6)), (1, .long (mx (mx (mx (mx (mx (mx (hh) ((cCount σ (0)).toInt64)) ((cCount σ (1)).toInt64)) ((cCount σ (2)).toInt64)) ((cCount σ (3)).toInt64)) ((cCount σ (4)).toInt64)) ((cCount σ (5)).toInt64))), (0, .ref (x))]) dX11_digest_118 rfl (by decide) (by decide) rfl rfl ?_
          refine g_goto C dX11_digest_121 (tgt := 99) (by decide) ?_
          refine g_iload_n C 0 dX11_digest_99 rfl rfl rfl ?_
          refine g_bipush C (v := 10) dX11_digest_100 (by decide) rfl ?_
          refine g_icmp_ge C dX11_digest_102 (tgt := 124) (by decide) (pc' := 105) rfl (fun c102 => absurd c102 (by decide)) (fun _ => ?_)
          refine g_ldc2 C kl_11_266 dX11_digest_105 rfl ?_
          refine g_lload_n C 1 dX11_digest_108 rfl rfl rfl ?_
          refine g_lmul C dX11_digest_109 rfl ?_
          refine g_aload_n C 2 dX11_digest_110 rfl rfl rfl ?_
          refine g_iload_n C 0 dX11_digest_111 rfl rfl rfl ?_
          refine g_callVi C (As := [.int (6)]) (q := (RX11, TX11, 8)) (k_X11_count l D b z hC (6)) hw_11_277 (hGa) rfl (by decide) rfl rfl (Nat.le_of_ble_eq_true rfl) ⟨Nat.zero_le _, Nat.zero_le _⟩ dX11_digest_112 (pc' := 115) rfl ?_
          rintro r16 h9 ⟨er, e9⟩
          subst h9; subst er
          refine g_i2l C dX11_digest_115 rfl ?_
          refine g_ladd C dX11_digest_116 rfl ?_
          refine g_topl (y := mx (mx (mx (mx (mx (mx (mx (hh) ((cCount σ (0)).toInt64)) ((cCount σ (1)).toInt64)) ((cCount σ (2)).toInt64)) ((cCount σ (3)).toInt64)) ((cCount σ (4)).toInt64)) ((cCount σ (5)).toInt64)) ((cCount σ (6)).toInt64)) (rfl) ?_
          refine g_lstore_n C ([(1, .long (mx (mx (mx (mx (mx (mx (mx (hh) ((cCount σ (0)).toInt64)) ((cCount σ (1)).toInt64)) ((cCount σ (2)).toInt64)) ((cCount σ (3)).toInt64)) ((cCount σ (4)).toInt64)) ((cCount σ (5)).toInt64)) ((cCount σ (6)).toInt64))), (3, .int (6)), (0, .ref (x))]) dX11_digest_117 rfl (by decide) rfl rfl ?_
          refine g_iinc C (v := 7) 1 ([(3, .int (7)), (1, .long (mx (mx (mx (mx (mx (mx (mx (hh) ((cCount σ (0)).toInt64)) ((cCount σ (1)).toInt64)) ((cCount σ (2)).toInt64)) ((cCount σ (3)).toInt64)) ((cCount σ (4)).toInt64)) ((cCount σ (5)).toInt64)) ((cCount σ (6)).toInt64))), (0, .ref (x))]) dX11_digest_118 rfl (by decide) (by decide) rfl rfl ?_
          refine g_goto C dX11_digest_121 (tgt := 99) (by decide) ?_
          refine g_iload_n C 0 dX11_digest_99 rfl rfl rfl ?_
          refine g_bipush C (v := 10) dX11_digest_100 (by decide) rfl ?_
          refine g_icmp_ge C dX11_digest_102 (tgt := 124) (by decide) (pc' := 105) rfl (fun c102 => absurd c102 (by decide)) (fun _ => ?_)
          refine g_ldc2 C kl_11_266 dX11_digest_105 rfl ?_
          refine g_lload_n C 1 dX11_digest_108 rfl rfl rfl ?_
          refine g_lmul C dX11_digest_109 rfl ?_
          refine g_aload_n C 2 dX11_digest_110 rfl rfl rfl ?_
          refine g_iload_n C 0 dX11_digest_111 rfl rfl rfl ?_
          refine g_callVi C (As := [.int (7)]) (q := (RX11, TX11, 8)) (k_X11_count l D b z hC (7)) hw_11_277 (hGa) rfl (by decide) rfl rfl (Nat.le_of_ble_eq_true rfl) ⟨Nat.zero_le _, Nat.zero_le _⟩ dX11_digest_112 (pc' := 115) rfl ?_
          rintro r17 h9 ⟨er, e9⟩
          subst h9; subst er
          refine g_i2l C dX11_digest_115 rfl ?_
          refine g_ladd C dX11_digest_116 rfl ?_
          refine g_topl (y := mx (mx (mx (mx (mx (mx (mx (mx (hh) ((cCount σ (0)).toInt64)) ((cCount σ (1)).toInt64)) ((cCount σ (2)).toInt64)) ((cCount σ (3)).toInt64)) ((cCount σ (4)).toInt64)) ((cCount σ (5)).toInt64)) ((cCount σ (6)).toInt64)) ((cCount σ (7)).toInt64)) (rfl) ?_
          refine g_lstore_n C ([(1, .long (mx (mx (mx (mx (mx (mx (mx (mx (hh) ((cCount σ (0)).toInt64)) ((cCount σ (1)).toInt64)) ((cCount σ (2)).toInt64)) ((cCount σ (3)).toInt64)) ((cCount σ (4)).toInt64)) ((cCount σ (5)).toInt64)) ((cCount σ (6)).toInt64)) ((cCount σ (7)).toInt64))), (3, .int (7)), (0, .ref (x))]) dX11_digest_117 rfl (by decide) rfl rfl ?_
          refine g_iinc C (v := 8) 1 ([(3, .int (8)), (1, .long (mx (mx (mx (mx (mx (mx (mx (mx (hh) ((cCount σ (0)).toInt64)) ((cCount σ (1)).toInt64)) ((cCount σ (2)).toInt64)) ((cCount σ (3)).toInt64)) ((cCount σ (4)).toInt64)) ((cCount σ (5)).toInt64)) ((cCount σ (6)).toInt64)) ((cCount σ (7)).toInt64))), (0, .ref (x))]) dX11_digest_118 rfl (by decide) (by decide) rfl rfl ?_
          refine g_goto C dX11_digest_121 (tgt := 99) (by decide) ?_
          refine g_iload_n C 0 dX11_digest_99 rfl rfl rfl ?_
          refine g_bipush C (v := 10) dX11_digest_100 (by decide) rfl ?_
          refine g_icmp_ge C dX11_digest_102 (tgt := 124) (by decide) (pc' := 105) rfl (fun c102 => absurd c102 (by decide)) (fun _ => ?_)
          refine g_ldc2 C kl_11_266 dX11_digest_105 rfl ?_
          refine g_lload_n C 1 dX11_digest_108 rfl rfl rfl ?_
          refine g_lmul C dX11_digest_109 rfl ?_
          refine g_aload_n C 2 dX11_digest_110 rfl rfl rfl ?_
          refine g_iload_n C 0 dX11_digest_111 rfl rfl rfl ?_
          refine g_callVi C (As := [.int (8)]) (q := (RX11, TX11, 8)) (k_X11_count l D b z hC (8)) hw_11_277 (hGa) rfl (by decide) rfl rfl (Nat.le_of_ble_eq_true rfl) ⟨Nat.zero_le _, Nat.zero_le _⟩ dX11_digest_112 (pc' := 115) rfl ?_
          rintro r18 h9 ⟨er, e9⟩
          subst h9; subst er
          refine g_i2l C dX11_digest_115 rfl ?_
          refine g_ladd C dX11_digest_116 rfl ?_
          refine g_topl (y := mx (mx (mx (mx (mx (mx (mx (mx (mx (hh) ((cCount σ (0)).toInt64)) ((cCount σ (1)).toInt64)) ((cCount σ (2)).toInt64)) ((cCount σ (3)).toInt64)) ((cCount σ (4)).toInt64)) ((cCount σ (5)).toInt64)) ((cCount σ (6)).toInt64)) ((cCount σ (7)).toInt64)) ((cCount σ (8)).toInt64)) (rfl) ?_
          refine g_lstore_n C ([(1, .long (mx (mx (mx (mx (mx (mx (mx (mx (mx (hh) ((cCount σ (0)).toInt64)) ((cCount σ (1)).toInt64)) ((cCount σ (2)).toInt64)) ((cCount σ (3)).toInt64)) ((cCount σ (4)).toInt64)) ((cCount σ (5)).toInt64)) ((cCount σ (6)).toInt64)) ((cCount σ (7)).toInt64)) ((cCount σ (8)).toInt64))), (3, .int (8)), (0, .ref (x))]) dX11_digest_117 rfl (by decide) rfl rfl ?_
          refine g_iinc C (v := 9) 1 ([(3, .int (9)), (1, .long (mx (mx (mx (mx (mx (mx (mx (mx (mx (hh) ((cCount σ (0)).toInt64)) ((cCount σ (1)).toInt64)) ((cCount σ (2)).toInt64)) ((cCount σ (3)).toInt64)) ((cCount σ (4)).toInt64)) ((cCount σ (5)).toInt64)) ((cCount σ (6)).toInt64)) ((cCount σ (7)).toInt64)) ((cCount σ (8)).toInt64))), (0, .ref (x))]) dX11_digest_118 rfl (by decide) (by decide) rfl rfl ?_
          refine g_goto C dX11_digest_121 (tgt := 99) (by decide) ?_
          refine g_iload_n C 0 dX11_digest_99 rfl rfl rfl ?_
          refine g_bipush C (v := 10) dX11_digest_100 (by decide) rfl ?_
          refine g_icmp_ge C dX11_digest_102 (tgt := 124) (by decide) (pc' := 105) rfl (fun c102 => absurd c102 (by decide)) (fun _ => ?_)
          refine g_ldc2 C kl_11_266 dX11_digest_105 rfl ?_
          refine g_lload_n C 1 dX11_digest_108 rfl rfl rfl ?_
          refine g_lmul C dX11_digest_109 rfl ?_
          refine g_aload_n C 2 dX11_digest_110 rfl rfl rfl ?_
          refine g_iload_n C 0 dX11_digest_111 rfl rfl rfl ?_
          refine g_callVi C (As := [.int (9)]) (q := (RX11, TX11, 8)) (k_X11_count l D b z hC (9)) hw_11_277 (hGa) rfl (by decide) rfl rfl (Nat.le_of_ble_eq_true rfl) ⟨Nat.zero_le _, Nat.zero_le _⟩ dX11_digest_112 (pc' := 115) rfl ?_
          rintro r19 h9 ⟨er, e9⟩
          subst h9; subst er
          refine g_i2l C dX11_digest_115 rfl ?_
          refine g_ladd C dX11_digest_116 rfl ?_
          refine g_topl (y := mx (mx (mx (mx (mx (mx (mx (mx (mx (mx (hh) ((cCount σ (0)).toInt64)) ((cCount σ (1)).toInt64)) ((cCount σ (2)).toInt64)) ((cCount σ (3)).toInt64)) ((cCount σ (4)).toInt64)) ((cCount σ (5)).toInt64)) ((cCount σ (6)).toInt64)) ((cCount σ (7)).toInt64)) ((cCount σ (8)).toInt64)) ((cCount σ (9)).toInt64)) (rfl) ?_
          refine g_lstore_n C ([(1, .long (mx (mx (mx (mx (mx (mx (mx (mx (mx (mx (hh) ((cCount σ (0)).toInt64)) ((cCount σ (1)).toInt64)) ((cCount σ (2)).toInt64)) ((cCount σ (3)).toInt64)) ((cCount σ (4)).toInt64)) ((cCount σ (5)).toInt64)) ((cCount σ (6)).toInt64)) ((cCount σ (7)).toInt64)) ((cCount σ (8)).toInt64)) ((cCount σ (9)).toInt64))), (3, .int (9)), (0, .ref (x))]) dX11_digest_117 rfl (by decide) rfl rfl ?_
          refine g_iinc C (v := 10) 1 ([(3, .int (10)), (1, .long (mx (mx (mx (mx (mx (mx (mx (mx (mx (mx (hh) ((cCount σ (0)).toInt64)) ((cCount σ (1)).toInt64)) ((cCount σ (2)).toInt64)) ((cCount σ (3)).toInt64)) ((cCount σ (4)).toInt64)) ((cCount σ (5)).toInt64)) ((cCount σ (6)).toInt64)) ((cCount σ (7)).toInt64)) ((cCount σ (8)).toInt64)) ((cCount σ (9)).toInt64))), (0, .ref (x))]) dX11_digest_118 rfl (by decide) (by decide) rfl rfl ?_
          refine g_goto C dX11_digest_121 (tgt := 99) (by decide) ?_
          refine g_iload_n C 0 dX11_digest_99 rfl rfl rfl ?_
          refine g_bipush C (v := 10) dX11_digest_100 (by decide) rfl ?_
          refine g_icmp_ge C dX11_digest_102 (tgt := 124) (by decide) (pc' := 105) rfl (fun _ => ?_) (fun c102 => absurd (by decide) c102)
          refine g_lload_n C 1 dX11_digest_124 rfl rfl rfl ?_
          exact ret _ _ _ _ dX11_digest_125 (⟨by unfold cDigest; rw [if_pos hp12]; show dgN (cCount σ) hh = _; rw [hhe, show i = gN σ 16 by omega]; rfl, rfl⟩)
        · intro c72
          replace c72 := (not_congr (nI_leI (a := gN σ 16) (b := i) (by omega) (by omega))).mp c72
          refine g_ldc2 C kl_11_266 dX11_digest_75 rfl ?_
          refine g_lload_n C 1 dX11_digest_78 rfl rfl rfl ?_
          refine g_lmul C dX11_digest_79 rfl ?_
          refine g_aload_n C 2 dX11_digest_80 rfl rfl rfl ?_
          refine gf_11_13 C (hGa) (v := .ref (x + 3)) rfl dX11_digest_81 rfl ?_
          refine g_iload_n C 0 dX11_digest_84 rfl rfl rfl ?_
          refine g_callVi C (As := [.int (nI (i))]) (q := (RX8, TX8, 2)) (k_X8_codeAt l D b z hI16 hPg (k := i) (by omega)) hw_11_274 (hPg.1) rfl (by decide) rfl rfl (Nat.le_of_ble_eq_true rfl) ⟨Nat.zero_le _, Nat.zero_le _⟩ dX11_digest_85 (pc' := 88) rfl ?_
          rintro r20 h9 ⟨er, e9⟩
          subst h9; subst er
          refine g_i2l C dX11_digest_88 rfl ?_
          refine g_ladd C dX11_digest_89 rfl ?_
          refine g_topl (y := mx (hh) ((gB σ 17 (i)).toInt64)) (rfl) ?_
          refine g_lstore_n C ([(1, .long (mx (hh) ((gB σ 17 (i)).toInt64))), (3, .int (nI (i))), (0, .ref (x))]) dX11_digest_90 rfl (by decide) rfl rfl ?_
          refine g_iinc C (v := nI (i + 1)) 1 ([(3, .int (nI (i + 1))), (1, .long (mx (hh) ((gB σ 17 (i)).toInt64))), (0, .ref (x))]) dX11_digest_91 rfl (nI_1 _) (by decide) rfl rfl ?_
          refine g_goto C dX11_digest_94 (tgt := 64) (by decide) ?_
          exact ih64 (i + 1) (mx (hh) ((gB σ 17 (i)).toInt64)) (by omega) (by omega) (by rw [hhe]; rfl)
    exact loop64 _ (0) (mx (mx (mx (mx (mx (mx (dgC σ (dgP σ (821) (gN σ 8))) ((cWrong σ (0)).toInt64)) ((cWrong σ (1)).toInt64)) ((cWrong σ (2)).toInt64)) ((cWrong σ (3)).toInt64)) ((cWrong σ (4)).toInt64)) ((cEarliest σ).toInt64)) (Nat.lt_succ_self _) (by omega) (rfl)
  · subst h9; subst er
    refine g_if_eq C dX11_digest_15 (tgt := 24) (by decide) (pc' := 18) rfl (fun _ => ?_) (fun c15 => absurd (by decide) c15)
    refine g_iconst C (v := 0) dX11_digest_24 (by decide) rfl ?_
    refine g_istore_n C ([(3, .int (0)), (1, .long (dgP σ (821) (gN σ 8))), (0, .ref (x))]) dX11_digest_25 rfl (by decide) rfl rfl ?_
    refine g_iload_n C 0 dX11_digest_26 rfl rfl rfl ?_
    refine g_iconst C (v := 4) dX11_digest_27 (by decide) rfl ?_
    refine g_icmp_gt C dX11_digest_28 (tgt := 50) (by decide) (pc' := 31) rfl (fun c28 => absurd c28 (by decide)) (fun _ => ?_)
    refine g_ldc2 C kl_11_266 dX11_digest_31 rfl ?_
    refine g_lload_n C 1 dX11_digest_34 rfl rfl rfl ?_
    refine g_lmul C dX11_digest_35 rfl ?_
    refine g_aload_n C 2 dX11_digest_36 rfl rfl rfl ?_
    refine g_iload_n C 0 dX11_digest_37 rfl rfl rfl ?_
    refine g_callVi C (As := [.int (0)]) (q := (RX11, TX11, 8)) (k_X11_wrong l D b z hC (0)) hw_11_268 (hGa) rfl (by decide) rfl rfl (Nat.le_of_ble_eq_true rfl) ⟨Nat.zero_le _, Nat.zero_le _⟩ dX11_digest_38 (pc' := 41) rfl ?_
    rintro r21 h9 ⟨er, e9⟩
    subst h9; subst er
    refine g_i2l C dX11_digest_41 rfl ?_
    refine g_ladd C dX11_digest_42 rfl ?_
    refine g_topl (y := mx (dgP σ (821) (gN σ 8)) ((cWrong σ (0)).toInt64)) (rfl) ?_
    refine g_lstore_n C ([(1, .long (mx (dgP σ (821) (gN σ 8)) ((cWrong σ (0)).toInt64))), (3, .int (0)), (0, .ref (x))]) dX11_digest_43 rfl (by decide) rfl rfl ?_
    refine g_iinc C (v := 1) 1 ([(3, .int (1)), (1, .long (mx (dgP σ (821) (gN σ 8)) ((cWrong σ (0)).toInt64))), (0, .ref (x))]) dX11_digest_44 rfl (by decide) (by decide) rfl rfl ?_
    refine g_goto C dX11_digest_47 (tgt := 26) (by decide) ?_
    refine g_iload_n C 0 dX11_digest_26 rfl rfl rfl ?_
    refine g_iconst C (v := 4) dX11_digest_27 (by decide) rfl ?_
    refine g_icmp_gt C dX11_digest_28 (tgt := 50) (by decide) (pc' := 31) rfl (fun c28 => absurd c28 (by decide)) (fun _ => ?_)
    refine g_ldc2 C kl_11_266 dX11_digest_31 rfl ?_
    refine g_lload_n C 1 dX11_digest_34 rfl rfl rfl ?_
    refine g_lmul C dX11_digest_35 rfl ?_
    refine g_aload_n C 2 dX11_digest_36 rfl rfl rfl ?_
    refine g_iload_n C 0 dX11_digest_37 rfl rfl rfl ?_
    refine g_callVi C (As := [.int (1)]) (q := (RX11, TX11, 8)) (k_X11_wrong l D b z hC (1)) hw_11_268 (hGa) rfl (by decide) rfl rfl (Nat.le_of_ble_eq_true rfl) ⟨Nat.zero_le _, Nat.zero_le _⟩ dX11_digest_38 (pc' := 41) rfl ?_
    rintro r22 h9 ⟨er, e9⟩
    subst h9; subst er
    refine g_i2l C dX11_digest_41 rfl ?_
    refine g_ladd C dX11_digest_42 rfl ?_
    refine g_topl (y := mx (mx (dgP σ (821) (gN σ 8)) ((cWrong σ (0)).toInt64)) ((cWrong σ (1)).toInt64)) (rfl) ?_
    refine g_lstore_n C ([(1, .long (mx (mx (dgP σ (821) (gN σ 8)) ((cWrong σ (0)).toInt64)) ((cWrong σ (1)).toInt64))), (3, .int (1)), (0, .ref (x))]) dX11_digest_43 rfl (by decide) rfl rfl ?_
    refine g_iinc C (v := 2) 1 ([(3, .int (2)), (1, .long (mx (mx (dgP σ (821) (gN σ 8)) ((cWrong σ (0)).toInt64)) ((cWrong σ (1)).toInt64))), (0, .ref (x))]) dX11_digest_44 rfl (by decide) (by decide) rfl rfl ?_
    refine g_goto C dX11_digest_47 (tgt := 26) (by decide) ?_
    refine g_iload_n C 0 dX11_digest_26 rfl rfl rfl ?_
    refine g_iconst C (v := 4) dX11_digest_27 (by decide) rfl ?_
    refine g_icmp_gt C dX11_digest_28 (tgt := 50) (by decide) (pc' := 31) rfl (fun c28 => absurd c28 (by decide)) (fun _ => ?_)
    refine g_ldc2 C kl_11_266 dX11_digest_31 rfl ?_
    refine g_lload_n C 1 dX11_digest_34 rfl rfl rfl ?_
    refine g_lmul C dX11_digest_35 rfl ?_
    refine g_aload_n C 2 dX11_digest_36 rfl rfl rfl ?_
    refine g_iload_n C 0 dX11_digest_37 rfl rfl rfl ?_
    refine g_callVi C (As := [.int (2)]) (q := (RX11, TX11, 8)) (k_X11_wrong l D b z hC (2)) hw_11_268 (hGa) rfl (by decide) rfl rfl (Nat.le_of_ble_eq_true rfl) ⟨Nat.zero_le _, Nat.zero_le _⟩ dX11_digest_38 (pc' := 41) rfl ?_
    rintro r23 h9 ⟨er, e9⟩
    subst h9; subst er
    refine g_i2l C dX11_digest_41 rfl ?_
    refine g_ladd C dX11_digest_42 rfl ?_
    refine g_topl (y := mx (mx (mx (dgP σ (821) (gN σ 8)) ((cWrong σ (0)).toInt64)) ((cWrong σ (1)).toInt64)) ((cWrong σ (2)).toInt64)) (rfl) ?_
    refine g_lstore_n C ([(1, .long (mx (mx (mx (dgP σ (821) (gN σ 8)) ((cWrong σ (0)).toInt64)) ((cWrong σ (1)).toInt64)) ((cWrong σ (2)).toInt64))), (3, .int (2)), (0, .ref (x))]) dX11_digest_43 rfl (by decide) rfl rfl ?_
    refine g_iinc C (v := 3) 1 ([(3, .int (3)), (1, .long (mx (mx (mx (dgP σ (821) (gN σ 8)) ((cWrong σ (0)).toInt64)) ((cWrong σ (1)).toInt64)) ((cWrong σ (2)).toInt64))), (0, .ref (x))]) dX11_digest_44 rfl (by decide) (by decide) rfl rfl ?_
    refine g_goto C dX11_digest_47 (tgt := 26) (by decide) ?_
    refine g_iload_n C 0 dX11_digest_26 rfl rfl rfl ?_
    refine g_iconst C (v := 4) dX11_digest_27 (by decide) rfl ?_
    refine g_icmp_gt C dX11_digest_28 (tgt := 50) (by decide) (pc' := 31) rfl (fun c28 => absurd c28 (by decide)) (fun _ => ?_)
    refine g_ldc2 C kl_11_266 dX11_digest_31 rfl ?_
    refine g_lload_n C 1 dX11_digest_34 rfl rfl rfl ?_
    refine g_lmul C dX11_digest_35 rfl ?_
    refine g_aload_n C 2 dX11_digest_36 rfl rfl rfl ?_
    refine g_iload_n C 0 dX11_digest_37 rfl rfl rfl ?_
    refine g_callVi C (As := [.int (3)]) (q := (RX11, TX11, 8)) (k_X11_wrong l D b z hC (3)) hw_11_268 (hGa) rfl (by decide) rfl rfl (Nat.le_of_ble_eq_true rfl) ⟨Nat.zero_le _, Nat.zero_le _⟩ dX11_digest_38 (pc' := 41) rfl ?_
    rintro r24 h9 ⟨er, e9⟩
    subst h9; subst er
    refine g_i2l C dX11_digest_41 rfl ?_
    refine g_ladd C dX11_digest_42 rfl ?_
    refine g_topl (y := mx (mx (mx (mx (dgP σ (821) (gN σ 8)) ((cWrong σ (0)).toInt64)) ((cWrong σ (1)).toInt64)) ((cWrong σ (2)).toInt64)) ((cWrong σ (3)).toInt64)) (rfl) ?_
    refine g_lstore_n C ([(1, .long (mx (mx (mx (mx (dgP σ (821) (gN σ 8)) ((cWrong σ (0)).toInt64)) ((cWrong σ (1)).toInt64)) ((cWrong σ (2)).toInt64)) ((cWrong σ (3)).toInt64))), (3, .int (3)), (0, .ref (x))]) dX11_digest_43 rfl (by decide) rfl rfl ?_
    refine g_iinc C (v := 4) 1 ([(3, .int (4)), (1, .long (mx (mx (mx (mx (dgP σ (821) (gN σ 8)) ((cWrong σ (0)).toInt64)) ((cWrong σ (1)).toInt64)) ((cWrong σ (2)).toInt64)) ((cWrong σ (3)).toInt64))), (0, .ref (x))]) dX11_digest_44 rfl (by decide) (by decide) rfl rfl ?_
    refine g_goto C dX11_digest_47 (tgt := 26) (by decide) ?_
    refine g_iload_n C 0 dX11_digest_26 rfl rfl rfl ?_
    refine g_iconst C (v := 4) dX11_digest_27 (by decide) rfl ?_
    refine g_icmp_gt C dX11_digest_28 (tgt := 50) (by decide) (pc' := 31) rfl (fun c28 => absurd c28 (by decide)) (fun _ => ?_)
    refine g_ldc2 C kl_11_266 dX11_digest_31 rfl ?_
    refine g_lload_n C 1 dX11_digest_34 rfl rfl rfl ?_
    refine g_lmul C dX11_digest_35 rfl ?_
    refine g_aload_n C 2 dX11_digest_36 rfl rfl rfl ?_
    refine g_iload_n C 0 dX11_digest_37 rfl rfl rfl ?_
    refine g_callVi C (As := [.int (4)]) (q := (RX11, TX11, 8)) (k_X11_wrong l D b z hC (4)) hw_11_268 (hGa) rfl (by decide) rfl rfl (Nat.le_of_ble_eq_true rfl) ⟨Nat.zero_le _, Nat.zero_le _⟩ dX11_digest_38 (pc' := 41) rfl ?_
    rintro r25 h9 ⟨er, e9⟩
    subst h9; subst er
    refine g_i2l C dX11_digest_41 rfl ?_
    refine g_ladd C dX11_digest_42 rfl ?_
    refine g_topl (y := mx (mx (mx (mx (mx (dgP σ (821) (gN σ 8)) ((cWrong σ (0)).toInt64)) ((cWrong σ (1)).toInt64)) ((cWrong σ (2)).toInt64)) ((cWrong σ (3)).toInt64)) ((cWrong σ (4)).toInt64)) (rfl) ?_
    refine g_lstore_n C ([(1, .long (mx (mx (mx (mx (mx (dgP σ (821) (gN σ 8)) ((cWrong σ (0)).toInt64)) ((cWrong σ (1)).toInt64)) ((cWrong σ (2)).toInt64)) ((cWrong σ (3)).toInt64)) ((cWrong σ (4)).toInt64))), (3, .int (4)), (0, .ref (x))]) dX11_digest_43 rfl (by decide) rfl rfl ?_
    refine g_iinc C (v := 5) 1 ([(3, .int (5)), (1, .long (mx (mx (mx (mx (mx (dgP σ (821) (gN σ 8)) ((cWrong σ (0)).toInt64)) ((cWrong σ (1)).toInt64)) ((cWrong σ (2)).toInt64)) ((cWrong σ (3)).toInt64)) ((cWrong σ (4)).toInt64))), (0, .ref (x))]) dX11_digest_44 rfl (by decide) (by decide) rfl rfl ?_
    refine g_goto C dX11_digest_47 (tgt := 26) (by decide) ?_
    refine g_iload_n C 0 dX11_digest_26 rfl rfl rfl ?_
    refine g_iconst C (v := 4) dX11_digest_27 (by decide) rfl ?_
    refine g_icmp_gt C dX11_digest_28 (tgt := 50) (by decide) (pc' := 31) rfl (fun _ => ?_) (fun c28 => absurd (by decide) c28)
    refine g_ldc2 C kl_11_266 dX11_digest_50 rfl ?_
    refine g_lload_n C 1 dX11_digest_53 rfl rfl rfl ?_
    refine g_lmul C dX11_digest_54 rfl ?_
    refine g_aload_n C 2 dX11_digest_55 rfl rfl rfl ?_
    refine g_callVi C (As := []) (q := (RX11, TX11, 8)) (k_X11_earliest l D b z hC) hw_11_271 (hGa) rfl (by decide) rfl rfl (Nat.le_of_ble_eq_true rfl) ⟨Nat.zero_le _, Nat.zero_le _⟩ dX11_digest_56 (pc' := 59) rfl ?_
    rintro r26 h9 ⟨er, e9⟩
    subst h9; subst er
    refine g_i2l C dX11_digest_59 rfl ?_
    refine g_ladd C dX11_digest_60 rfl ?_
    refine g_topl (y := mx (mx (mx (mx (mx (mx (dgP σ (821) (gN σ 8)) ((cWrong σ (0)).toInt64)) ((cWrong σ (1)).toInt64)) ((cWrong σ (2)).toInt64)) ((cWrong σ (3)).toInt64)) ((cWrong σ (4)).toInt64)) ((cEarliest σ).toInt64)) (rfl) ?_
    refine g_lstore_n C ([(1, .long (mx (mx (mx (mx (mx (mx (dgP σ (821) (gN σ 8)) ((cWrong σ (0)).toInt64)) ((cWrong σ (1)).toInt64)) ((cWrong σ (2)).toInt64)) ((cWrong σ (3)).toInt64)) ((cWrong σ (4)).toInt64)) ((cEarliest σ).toInt64))), (3, .int (5)), (0, .ref (x))]) dX11_digest_61 rfl (by decide) rfl rfl ?_
    refine g_iconst C (v := 0) dX11_digest_62 (by decide) rfl ?_
    refine g_istore_n C ([(3, .int (0)), (1, .long (mx (mx (mx (mx (mx (mx (dgP σ (821) (gN σ 8)) ((cWrong σ (0)).toInt64)) ((cWrong σ (1)).toInt64)) ((cWrong σ (2)).toInt64)) ((cWrong σ (3)).toInt64)) ((cWrong σ (4)).toInt64)) ((cEarliest σ).toInt64))), (0, .ref (x))]) dX11_digest_63 rfl (by decide) rfl rfl ?_
    have loop64 : ∀ (N : Nat) (i : Nat) (hh : Int64), gN σ 16 - i < N → (i ≤ gN σ 16) → (hh = dgG (gB σ 17) (mx (mx (mx (mx (mx (mx (dgP σ (821) (gN σ 8)) ((cWrong σ (0)).toInt64)) ((cWrong σ (1)).toInt64)) ((cWrong σ (2)).toInt64)) ((cWrong σ (3)).toInt64)) ((cWrong σ (4)).toInt64)) ((cEarliest σ).toInt64)) i) → qG X 0 0 z h 64 [(3, .int (nI (i))), (1, .long (hh)), (0, .ref (x))] [] := by
      intro N
      induction N with
      | zero => intro i hh hm; exact absurd hm (Nat.not_lt_zero _)
      | succ N ih64 =>
        intro i hh hm hi hhe
        refine g_iload_n C 0 dX11_digest_64 rfl rfl rfl ?_
        refine g_aload_n C 2 dX11_digest_65 rfl rfl rfl ?_
        refine gf_11_13 C (hGa) (v := .ref (x + 3)) rfl dX11_digest_66 rfl ?_
        refine gf_11_67 C (hPg.1) (v := .int (nI (gN σ 16))) rfl dX11_digest_69 rfl ?_
        refine g_icmp_ge C dX11_digest_72 (tgt := 97) (by decide) (pc' := 75) rfl ?_ ?_
        · intro c72
          replace c72 := (nI_leI (a := gN σ 16) (b := i) (by omega) (by omega)).mp c72
          refine g_iconst C (v := 0) dX11_digest_97 (by decide) rfl ?_
          refine g_istore_n C ([(3, .int (0)), (1, .long (hh)), (0, .ref (x))]) dX11_digest_98 rfl (by decide) rfl rfl ?_
          refine g_iload_n C 0 dX11_digest_99 rfl rfl rfl ?_
          refine g_bipush C (v := 10) dX11_digest_100 (by decide) rfl ?_
          refine g_icmp_ge C dX11_digest_102 (tgt := 124) (by decide) (pc' := 105) rfl (fun c102 => absurd c102 (by decide)) (fun _ => ?_)
          refine g_ldc2 C kl_11_266 dX11_digest_105 rfl ?_
          refine g_lload_n C 1 dX11_digest_108 rfl rfl rfl ?_
          refine g_lmul C dX11_digest_109 rfl ?_
          refine g_aload_n C 2 dX11_digest_110 rfl rfl rfl ?_
          refine g_iload_n C 0 dX11_digest_111 rfl rfl rfl ?_
          refine g_callVi C (As := [.int (0)]) (q := (RX11, TX11, 8)) (k_X11_count l D b z hC (0)) hw_11_277 (hGa) rfl (by decide) rfl rfl (Nat.le_of_ble_eq_true rfl) ⟨Nat.zero_le _, Nat.zero_le _⟩ dX11_digest_112 (pc' := 115) rfl ?_
          rintro r27 h9 ⟨er, e9⟩
          subst h9; subst er
          refine g_i2l C dX11_digest_115 rfl ?_
          refine g_ladd C dX11_digest_116 rfl ?_
          refine g_topl (y := mx (hh) ((cCount σ (0)).toInt64)) (rfl) ?_
          refine g_lstore_n C ([(1, .long (mx (hh) ((cCount σ (0)).toInt64))), (3, .int (0)), (0, .ref (x))]) dX11_digest_117 rfl (by decide) rfl rfl ?_
          refine g_iinc C (v := 1) 1 ([(3, .int (1)), (1, .long (mx (hh) ((cCount σ (0)).toInt64))), (0, .ref (x))]) dX11_digest_118 rfl (by decide) (by decide) rfl rfl ?_
          refine g_goto C dX11_digest_121 (tgt := 99) (by decide) ?_
          refine g_iload_n C 0 dX11_digest_99 rfl rfl rfl ?_
          refine g_bipush C (v := 10) dX11_digest_100 (by decide) rfl ?_
          refine g_icmp_ge C dX11_digest_102 (tgt := 124) (by decide) (pc' := 105) rfl (fun c102 => absurd c102 (by decide)) (fun _ => ?_)
          refine g_ldc2 C kl_11_266 dX11_digest_105 rfl ?_
          refine g_lload_n C 1 dX11_digest_108 rfl rfl rfl ?_
          refine g_lmul C dX11_digest_109 rfl ?_
          refine g_aload_n C 2 dX11_digest_110 rfl rfl rfl ?_
          refine g_iload_n C 0 dX11_digest_111 rfl rfl rfl ?_
          refine g_callVi C (As := [.int (1)]) (q := (RX11, TX11, 8)) (k_X11_count l D b z hC (1)) hw_11_277 (hGa) rfl (by decide) rfl rfl (Nat.le_of_ble_eq_true rfl) ⟨Nat.zero_le _, Nat.zero_le _⟩ dX11_digest_112 (pc' := 115) rfl ?_
          rintro r28 h9 ⟨er, e9⟩
          subst h9; subst er
          refine g_i2l C dX11_digest_115 rfl ?_
          refine g_ladd C dX11_digest_116 rfl ?_
          refine g_topl (y := mx (mx (hh) ((cCount σ (0)).toInt64)) ((cCount σ (1)).toInt64)) (rfl) ?_
          refine g_lstore_n C ([(1, .long (mx (mx (hh) ((cCount σ (0)).toInt64)) ((cCount σ (1)).toInt64))), (3, .int (1)), (0, .ref (x))]) dX11_digest_117 rfl (by decide) rfl rfl ?_
          refine g_iinc C (v := 2) 1 ([(3, .int (2)), (1, .long (mx (mx (hh) ((cCount σ (0)).toInt64)) ((cCount σ (1)).toInt64))), (0, .ref (x))]) dX11_digest_118 rfl (by decide) (by decide) rfl rfl ?_
          refine g_goto C dX11_digest_121 (tgt := 99) (by decide) ?_
          refine g_iload_n C 0 dX11_digest_99 rfl rfl rfl ?_
          refine g_bipush C (v := 10) dX11_digest_100 (by decide) rfl ?_
          refine g_icmp_ge C dX11_digest_102 (tgt := 124) (by decide) (pc' := 105) rfl (fun c102 => absurd c102 (by decide)) (fun _ => ?_)
          refine g_ldc2 C kl_11_266 dX11_digest_105 rfl ?_
          refine g_lload_n C 1 dX11_digest_108 rfl rfl rfl ?_
          refine g_lmul C dX11_digest_109 rfl ?_
          refine g_aload_n C 2 dX11_digest_110 rfl rfl rfl ?_
          refine g_iload_n C 0 dX11_digest_111 rfl rfl rfl ?_
          refine g_callVi C (As := [.int (2)]) (q := (RX11, TX11, 8)) (k_X11_count l D b z hC (2)) hw_11_277 (hGa) rfl (by decide) rfl rfl (Nat.le_of_ble_eq_true rfl) ⟨Nat.zero_le _, Nat.zero_le _⟩ dX11_digest_112 (pc' := 115) rfl ?_
          rintro r29 h9 ⟨er, e9⟩
          subst h9; subst er
          refine g_i2l C dX11_digest_115 rfl ?_
          refine g_ladd C dX11_digest_116 rfl ?_
          refine g_topl (y := mx (mx (mx (hh) ((cCount σ (0)).toInt64)) ((cCount σ (1)).toInt64)) ((cCount σ (2)).toInt64)) (rfl) ?_
          refine g_lstore_n C ([(1, .long (mx (mx (mx (hh) ((cCount σ (0)).toInt64)) ((cCount σ (1)).toInt64)) ((cCount σ (2)).toInt64))), (3, .int (2)), (0, .ref (x))]) dX11_digest_117 rfl (by decide) rfl rfl ?_
          refine g_iinc C (v := 3) 1 ([(3, .int (3)), (1, .long (mx (mx (mx (hh) ((cCount σ (0)).toInt64)) ((cCount σ (1)).toInt64)) ((cCount σ (2)).toInt64))), (0, .ref (x))]) dX11_digest_118 rfl (by decide) (by decide) rfl rfl ?_
          refine g_goto C dX11_digest_121 (tgt := 99) (by decide) ?_
          refine g_iload_n C 0 dX11_digest_99 rfl rfl rfl ?_
          refine g_bipush C (v := 10) dX11_digest_100 (by decide) rfl ?_
          refine g_icmp_ge C dX11_digest_102 (tgt := 124) (by decide) (pc' := 105) rfl (fun c102 => absurd c102 (by decide)) (fun _ => ?_)
          refine g_ldc2 C kl_11_266 dX11_digest_105 rfl ?_
          refine g_lload_n C 1 dX11_digest_108 rfl rfl rfl ?_
          refine g_lmul C dX11_digest_109 rfl ?_
          refine g_aload_n C 2 dX11_digest_110 rfl rfl rfl ?_
          refine g_iload_n C 0 dX11_digest_111 rfl rfl rfl ?_
          refine g_callVi C (As := [.int (3)]) (q := (RX11, TX11, 8)) (k_X11_count l D b z hC (3)) hw_11_277 (hGa) rfl (by decide) rfl rfl (Nat.le_of_ble_eq_true rfl) ⟨Nat.zero_le _, Nat.zero_le _⟩ dX11_digest_112 (pc' := 115) rfl ?_
          rintro r30 h9 ⟨er, e9⟩
          subst h9; subst er
          refine g_i2l C dX11_digest_115 rfl ?_
          refine g_ladd C dX11_digest_116 rfl ?_
          refine g_topl (y := mx (mx (mx (mx (hh) ((cCount σ (0)).toInt64)) ((cCount σ (1)).toInt64)) ((cCount σ (2)).toInt64)) ((cCount σ (3)).toInt64)) (rfl) ?_
          refine g_lstore_n C ([(1, .long (mx (mx (mx (mx (hh) ((cCount σ (0)).toInt64)) ((cCount σ (1)).toInt64)) ((cCount σ (2)).toInt64)) ((cCount σ (3)).toInt64))), (3, .int (3)), (0, .ref (x))]) dX11_digest_117 rfl (by decide) rfl rfl ?_
          refine g_iinc C (v := 4) 1 ([(3, .int (4)), (1, .long (mx (mx (mx (mx (hh) ((cCount σ (0)).toInt64)) ((cCount σ (1)).toInt64)) ((cCount σ (2)).toInt64)) ((cCount σ (3)).toInt64))), (0, .ref (x))]) dX11_digest_118 rfl (by decide) (by decide) rfl rfl ?_
          refine g_goto C dX11_digest_121 (tgt := 99) (by decide) ?_
          refine g_iload_n C 0 dX11_digest_99 rfl rfl rfl ?_
          refine g_bipush C (v := 10) dX11_digest_100 (by decide) rfl ?_
          refine g_icmp_ge C dX11_digest_102 (tgt := 124) (by decide) (pc' := 105) rfl (fun c102 => absurd c102 (by decide)) (fun _ => ?_)
          refine g_ldc2 C kl_11_266 dX11_digest_105 rfl ?_
          refine g_lload_n C 1 dX11_digest_108 rfl rfl rfl ?_
          refine g_lmul C dX11_digest_109 rfl ?_
          refine g_aload_n C 2 dX11_digest_110 rfl rfl rfl ?_
          refine g_iload_n C 0 dX11_digest_111 rfl rfl rfl ?_
          refine g_callVi C (As := [.int (4)]) (q := (RX11, TX11, 8)) (k_X11_count l D b z hC (4)) hw_11_277 (hGa) rfl (by decide) rfl rfl (Nat.le_of_ble_eq_true rfl) ⟨Nat.zero_le _, Nat.zero_le _⟩ dX11_digest_112 (pc' := 115) rfl ?_
          rintro r31 h9 ⟨er, e9⟩
          subst h9; subst er
          refine g_i2l C dX11_digest_115 rfl ?_
          refine g_ladd C dX11_digest_116 rfl ?_
          refine g_topl (y := mx (mx (mx (mx (mx (hh) ((cCount σ (0)).toInt64)) ((cCount σ (1)).toInt64)) ((cCount σ (2)).toInt64)) ((cCount σ (3)).toInt64)) ((cCount σ (4)).toInt64)) (rfl) ?_
          refine g_lstore_n C ([(1, .long (mx (mx (mx (mx (mx (hh) ((cCount σ (0)).toInt64)) ((cCount σ (1)).toInt64)) ((cCount σ (2)).toInt64)) ((cCount σ (3)).toInt64)) ((cCount σ (4)).toInt64))), (3, .int (4)), (0, .ref (x))]) dX11_digest_117 rfl (by decide) rfl rfl ?_
          refine g_iinc C (v := 5) 1 ([(3, .int (5)), (1, .long (mx (mx (mx (mx (mx (hh) ((cCount σ (0)).toInt64)) ((cCount σ (1)).toInt64)) ((cCount σ (2)).toInt64)) ((cCount σ (3)).toInt64)) ((cCount σ (4)).toInt64))), (0, .ref (x))]) dX11_digest_118 rfl (by decide) (by decide) rfl rfl ?_
          refine g_goto C dX11_digest_121 (tgt := 99) (by decide) ?_
          refine g_iload_n C 0 dX11_digest_99 rfl rfl rfl ?_
          refine g_bipush C (v := 10) dX11_digest_100 (by decide) rfl ?_
          refine g_icmp_ge C dX11_digest_102 (tgt := 124) (by decide) (pc' := 105) rfl (fun c102 => absurd c102 (by decide)) (fun _ => ?_)
          refine g_ldc2 C kl_11_266 dX11_digest_105 rfl ?_
          refine g_lload_n C 1 dX11_digest_108 rfl rfl rfl ?_
          refine g_lmul C dX11_digest_109 rfl ?_
          refine g_aload_n C 2 dX11_digest_110 rfl rfl rfl ?_
          refine g_iload_n C 0 dX11_digest_111 rfl rfl rfl ?_
          refine g_callVi C (As := [.int (5)]) (q := (RX11, TX11, 8)) (k_X11_count l D b z hC (5)) hw_11_277 (hGa) rfl (by decide) rfl rfl (Nat.le_of_ble_eq_true rfl) ⟨Nat.zero_le _, Nat.zero_le _⟩ dX11_digest_112 (pc' := 115) rfl ?_
          rintro r32 h9 ⟨er, e9⟩
          subst h9; subst er
          refine g_i2l C dX11_digest_115 rfl ?_
          refine g_ladd C dX11_digest_116 rfl ?_
          refine g_topl (y := mx (mx (mx (mx (mx (mx (hh) ((cCount σ (0)).toInt64)) ((cCount σ (1)).toInt64)) ((cCount σ (2)).toInt64)) ((cCount σ (3)).toInt64)) ((cCount σ (4)).toInt64)) ((cCount σ (5)).toInt64)) (rfl) ?_
          refine g_lstore_n C ([(1, .long (mx (mx (mx (mx (mx (mx (hh) ((cCount σ (0)).toInt64)) ((cCount σ (1)).toInt64)) ((cCount σ (2)).toInt64)) ((cCount σ (3)).toInt64)) ((cCount σ (4)).toInt64)) ((cCount σ (5)).toInt64))), (3, .int (5)), (0, .ref (x))]) dX11_digest_117 rfl (by decide) rfl rfl ?_
          refine g_iinc C (v := 6) 1 ([(3, .int (6)), (1, .long (mx (mx (mx (mx (mx (mx (hh) ((cCount σ (0)).toInt64)) ((cCount σ (1)).toInt64)) ((cCount σ (2)).toInt64)) ((cCount σ (3)).toInt64)) ((cCount σ (4)).toInt64)) ((cCount σ (5)).toInt64))), (0, .ref (x))]) dX11_digest_118 rfl (by decide) (by decide) rfl rfl ?_
          refine g_goto C dX11_digest_121 (tgt := 99) (by decide) ?_
          refine g_iload_n C 0 dX11_digest_99 rfl rfl rfl ?_
          refine g_bipush C (v := 10) dX11_digest_100 (by decide) rfl ?_
          refine g_icmp_ge C dX11_digest_102 (tgt := 124) (by decide) (pc' := 105) rfl (fun c102 => absurd c102 (by decide)) (fun _ => ?_)
          refine g_ldc2 C kl_11_266 dX11_digest_105 rfl ?_
          refine g_lload_n C 1 dX11_digest_108 rfl rfl rfl ?_
          refine g_lmul C dX11_digest_109 rfl ?_
          refine g_aload_n C 2 dX11_digest_110 rfl rfl rfl ?_
          refine g_iload_n C 0 dX11_digest_111 rfl rfl rfl ?_
          refine g_callVi C (As := [.int (6)]) (q := (RX11, TX11, 8)) (k_X11_count l D b z hC (6)) hw_11_277 (hGa) rfl (by decide) rfl rfl (Nat.le_of_ble_eq_true rfl) ⟨Nat.zero_le _, Nat.zero_le _⟩ dX11_digest_112 (pc' := 115) rfl ?_
          rintro r33 h9 ⟨er, e9⟩
          subst h9; subst er
          refine g_i2l C dX11_digest_115 rfl ?_
          refine g_ladd C dX11_digest_116 rfl ?_
          refine g_topl (y := mx (mx (mx (mx (mx (mx (mx (hh) ((cCount σ (0)).toInt64)) ((cCount σ (1)).toInt64)) ((cCount σ (2)).toInt64)) ((cCount σ (3)).toInt64)) ((cCount σ (4)).toInt64)) ((cCount σ (5)).toInt64)) ((cCount σ (6)).toInt64)) (rfl) ?_
          refine g_lstore_n C ([(1, .long (mx (mx (mx (mx (mx (mx (mx (hh) ((cCount σ (0)).toInt64)) ((cCount σ (1)).toInt64)) ((cCount σ (2)).toInt64)) ((cCount σ (3)).toInt64)) ((cCount σ (4)).toInt64)) ((cCount σ (5)).toInt64)) ((cCount σ (6)).toInt64))), (3, .int (6)), (0, .ref (x))]) dX11_digest_117 rfl (by decide) rfl rfl ?_
          refine g_iinc C (v := 7) 1 ([(3, .int (7)), (1, .long (mx (mx (mx (mx (mx (mx (mx (hh) ((cCount σ (0)).toInt64)) ((cCount σ (1)).toInt64)) ((cCount σ (2)).toInt64)) ((cCount σ (3)).toInt64)) ((cCount σ (4)).toInt64)) ((cCount σ (5)).toInt64)) ((cCount σ (6)).toInt64))), (0, .ref (x))]) dX11_digest_118 rfl (by decide) (by decide) rfl rfl ?_
          refine g_goto C dX11_digest_121 (tgt := 99) (by decide) ?_
          refine g_iload_n C 0 dX11_digest_99 rfl rfl rfl ?_
          refine g_bipush C (v := 10) dX11_digest_100 (by decide) rfl ?_
          refine g_icmp_ge C dX11_digest_102 (tgt := 124) (by decide) (pc' := 105) rfl (fun c102 => absurd c102 (by decide)) (fun _ => ?_)
          refine g_ldc2 C kl_11_266 dX11_digest_105 rfl ?_
          refine g_lload_n C 1 dX11_digest_108 rfl rfl rfl ?_
          refine g_lmul C dX11_digest_109 rfl ?_
          refine g_aload_n C 2 dX11_digest_110 rfl rfl rfl ?_
          refine g_iload_n C 0 dX11_digest_111 rfl rfl rfl ?_
          refine g_callVi C (As := [.int (7)]) (q := (RX11, TX11, 8)) (k_X11_count l D b z hC (7)) hw_11_277 (hGa) rfl (by decide) rfl rfl (Nat.le_of_ble_eq_true rfl) ⟨Nat.zero_le _, Nat.zero_le _⟩ dX11_digest_112 (pc' := 115) rfl ?_
          rintro r34 h9 ⟨er, e9⟩
          subst h9; subst er
          refine g_i2l C dX11_digest_115 rfl ?_
          refine g_ladd C dX11_digest_116 rfl ?_
          refine g_topl (y := mx (mx (mx (mx (mx (mx (mx (mx (hh) ((cCount σ (0)).toInt64)) ((cCount σ (1)).toInt64)) ((cCount σ (2)).toInt64)) ((cCount σ (3)).toInt64)) ((cCount σ (4)).toInt64)) ((cCount σ (5)).toInt64)) ((cCount σ (6)).toInt64)) ((cCount σ (7)).toInt64)) (rfl) ?_
          refine g_lstore_n C ([(1, .long (mx (mx (mx (mx (mx (mx (mx (mx (hh) ((cCount σ (0)).toInt64)) ((cCount σ (1)).toInt64)) ((cCount σ (2)).toInt64)) ((cCount σ (3)).toInt64)) ((cCount σ (4)).toInt64)) ((cCount σ (5)).toInt64)) ((cCount σ (6)).toInt64)) ((cCount σ (7)).toInt64))), (3, .int (7)), (0, .ref (x))]) dX11_digest_117 rfl (by decide) rfl rfl ?_
          refine g_iinc C (v := 8) 1 ([(3, .int (8)), (1, .long (mx (mx (mx (mx (mx (mx (mx (mx (hh) ((cCount σ (0)).toInt64)) ((cCount σ (1)).toInt64)) ((cCount σ (2)).toInt64)) ((cCount σ (3)).toInt64)) ((cCount σ (4)).toInt64)) ((cCount σ (5)).toInt64)) ((cCount σ (6)).toInt64)) ((cCount σ (7)).toInt64))), (0, .ref (x))]) dX11_digest_118 rfl (by decide) (by decide) rfl rfl ?_
          refine g_goto C dX11_digest_121 (tgt := 99) (by decide) ?_
          refine g_iload_n C 0 dX11_digest_99 rfl rfl rfl ?_
          refine g_bipush C (v := 10) dX11_digest_100 (by decide) rfl ?_
          refine g_icmp_ge C dX11_digest_102 (tgt := 124) (by decide) (pc' := 105) rfl (fun c102 => absurd c102 (by decide)) (fun _ => ?_)
          refine g_ldc2 C kl_11_266 dX11_digest_105 rfl ?_
          refine g_lload_n C 1 dX11_digest_108 rfl rfl rfl ?_
          refine g_lmul C dX11_digest_109 rfl ?_
          refine g_aload_n C 2 dX11_digest_110 rfl rfl rfl ?_
          refine g_iload_n C 0 dX11_digest_111 rfl rfl rfl ?_
          refine g_callVi C (As := [.int (8)]) (q := (RX11, TX11, 8)) (k_X11_count l D b z hC (8)) hw_11_277 (hGa) rfl (by decide) rfl rfl (Nat.le_of_ble_eq_true rfl) ⟨Nat.zero_le _, Nat.zero_le _⟩ dX11_digest_112 (pc' := 115) rfl ?_
          rintro r35 h9 ⟨er, e9⟩
          subst h9; subst er
          refine g_i2l C dX11_digest_115 rfl ?_
          refine g_ladd C dX11_digest_116 rfl ?_
          refine g_topl (y := mx (mx (mx (mx (mx (mx (mx (mx (mx (hh) ((cCount σ (0)).toInt64)) ((cCount σ (1)).toInt64)) ((cCount σ (2)).toInt64)) ((cCount σ (3)).toInt64)) ((cCount σ (4)).toInt64)) ((cCount σ (5)).toInt64)) ((cCount σ (6)).toInt64)) ((cCount σ (7)).toInt64)) ((cCount σ (8)).toInt64)) (rfl) ?_
          refine g_lstore_n C ([(1, .long (mx (mx (mx (mx (mx (mx (mx (mx (mx (hh) ((cCount σ (0)).toInt64)) ((cCount σ (1)).toInt64)) ((cCount σ (2)).toInt64)) ((cCount σ (3)).toInt64)) ((cCount σ (4)).toInt64)) ((cCount σ (5)).toInt64)) ((cCount σ (6)).toInt64)) ((cCount σ (7)).toInt64)) ((cCount σ (8)).toInt64))), (3, .int (8)), (0, .ref (x))]) dX11_digest_117 rfl (by decide) rfl rfl ?_
          refine g_iinc C (v := 9) 1 ([(3, .int (9)), (1, .long (mx (mx (mx (mx (mx (mx (mx (mx (mx (hh) ((cCount σ (0)).toInt64)) ((cCount σ (1)).toInt64)) ((cCount σ (2)).toInt64)) ((cCount σ (3)).toInt64)) ((cCount σ (4)).toInt64)) ((cCount σ (5)).toInt64)) ((cCount σ (6)).toInt64)) ((cCount σ (7)).toInt64)) ((cCount σ (8)).toInt64))), (0, .ref (x))]) dX11_digest_118 rfl (by decide) (by decide) rfl rfl ?_
          refine g_goto C dX11_digest_121 (tgt := 99) (by decide) ?_
          refine g_iload_n C 0 dX11_digest_99 rfl rfl rfl ?_
          refine g_bipush C (v := 10) dX11_digest_100 (by decide) rfl ?_
          refine g_icmp_ge C dX11_digest_102 (tgt := 124) (by decide) (pc' := 105) rfl (fun c102 => absurd c102 (by decide)) (fun _ => ?_)
          refine g_ldc2 C kl_11_266 dX11_digest_105 rfl ?_
          refine g_lload_n C 1 dX11_digest_108 rfl rfl rfl ?_
          refine g_lmul C dX11_digest_109 rfl ?_
          refine g_aload_n C 2 dX11_digest_110 rfl rfl rfl ?_
          refine g_iload_n C 0 dX11_digest_111 rfl rfl rfl ?_
          refine g_callVi C (As := [.int (9)]) (q := (RX11, TX11, 8)) (k_X11_count l D b z hC (9)) hw_11_277 (hGa) rfl (by decide) rfl rfl (Nat.le_of_ble_eq_true rfl) ⟨Nat.zero_le _, Nat.zero_le _⟩ dX11_digest_112 (pc' := 115) rfl ?_
          rintro r36 h9 ⟨er, e9⟩
          subst h9; subst er
          refine g_i2l C dX11_digest_115 rfl ?_
          refine g_ladd C dX11_digest_116 rfl ?_
          refine g_topl (y := mx (mx (mx (mx (mx (mx (mx (mx (mx (mx (hh) ((cCount σ (0)).toInt64)) ((cCount σ (1)).toInt64)) ((cCount σ (2)).toInt64)) ((cCount σ (3)).toInt64)) ((cCount σ (4)).toInt64)) ((cCount σ (5)).toInt64)) ((cCount σ (6)).toInt64)) ((cCount σ (7)).toInt64)) ((cCount σ (8)).toInt64)) ((cCount σ (9)).toInt64)) (rfl) ?_
          refine g_lstore_n C ([(1, .long (mx (mx (mx (mx (mx (mx (mx (mx (mx (mx (hh) ((cCount σ (0)).toInt64)) ((cCount σ (1)).toInt64)) ((cCount σ (2)).toInt64)) ((cCount σ (3)).toInt64)) ((cCount σ (4)).toInt64)) ((cCount σ (5)).toInt64)) ((cCount σ (6)).toInt64)) ((cCount σ (7)).toInt64)) ((cCount σ (8)).toInt64)) ((cCount σ (9)).toInt64))), (3, .int (9)), (0, .ref (x))]) dX11_digest_117 rfl (by decide) rfl rfl ?_
          refine g_iinc C (v := 10) 1 ([(3, .int (10)), (1, .long (mx (mx (mx (mx (mx (mx (mx (mx (mx (mx (hh) ((cCount σ (0)).toInt64)) ((cCount σ (1)).toInt64)) ((cCount σ (2)).toInt64)) ((cCount σ (3)).toInt64)) ((cCount σ (4)).toInt64)) ((cCount σ (5)).toInt64)) ((cCount σ (6)).toInt64)) ((cCount σ (7)).toInt64)) ((cCount σ (8)).toInt64)) ((cCount σ (9)).toInt64))), (0, .ref (x))]) dX11_digest_118 rfl (by decide) (by decide) rfl rfl ?_
          refine g_goto C dX11_digest_121 (tgt := 99) (by decide) ?_
          refine g_iload_n C 0 dX11_digest_99 rfl rfl rfl ?_
          refine g_bipush C (v := 10) dX11_digest_100 (by decide) rfl ?_
          refine g_icmp_ge C dX11_digest_102 (tgt := 124) (by decide) (pc' := 105) rfl (fun _ => ?_) (fun c102 => absurd (by decide) c102)
          refine g_lload_n C 1 dX11_digest_124 rfl rfl rfl ?_
          exact ret _ _ _ _ dX11_digest_125 (⟨by unfold cDigest; rw [if_neg hp12]; show dgN (cCount σ) hh = _; rw [hhe, show i = gN σ 16 by omega]; rfl, rfl⟩)
        · intro c72
          replace c72 := (not_congr (nI_leI (a := gN σ 16) (b := i) (by omega) (by omega))).mp c72
          refine g_ldc2 C kl_11_266 dX11_digest_75 rfl ?_
          refine g_lload_n C 1 dX11_digest_78 rfl rfl rfl ?_
          refine g_lmul C dX11_digest_79 rfl ?_
          refine g_aload_n C 2 dX11_digest_80 rfl rfl rfl ?_
          refine gf_11_13 C (hGa) (v := .ref (x + 3)) rfl dX11_digest_81 rfl ?_
          refine g_iload_n C 0 dX11_digest_84 rfl rfl rfl ?_
          refine g_callVi C (As := [.int (nI (i))]) (q := (RX8, TX8, 2)) (k_X8_codeAt l D b z hI16 hPg (k := i) (by omega)) hw_11_274 (hPg.1) rfl (by decide) rfl rfl (Nat.le_of_ble_eq_true rfl) ⟨Nat.zero_le _, Nat.zero_le _⟩ dX11_digest_85 (pc' := 88) rfl ?_
          rintro r37 h9 ⟨er, e9⟩
          subst h9; subst er
          refine g_i2l C dX11_digest_88 rfl ?_
          refine g_ladd C dX11_digest_89 rfl ?_
          refine g_topl (y := mx (hh) ((gB σ 17 (i)).toInt64)) (rfl) ?_
          refine g_lstore_n C ([(1, .long (mx (hh) ((gB σ 17 (i)).toInt64))), (3, .int (nI (i))), (0, .ref (x))]) dX11_digest_90 rfl (by decide) rfl rfl ?_
          refine g_iinc C (v := nI (i + 1)) 1 ([(3, .int (nI (i + 1))), (1, .long (mx (hh) ((gB σ 17 (i)).toInt64))), (0, .ref (x))]) dX11_digest_91 rfl (nI_1 _) (by decide) rfl rfl ?_
          refine g_goto C dX11_digest_94 (tgt := 64) (by decide) ?_
          exact ih64 (i + 1) (mx (hh) ((gB σ 17 (i)).toInt64)) (by omega) (by omega) (by rw [hhe]; rfl)
    exact loop64 _ (0) (mx (mx (mx (mx (mx (mx (dgP σ (821) (gN σ 8)) ((cWrong σ (0)).toInt64)) ((cWrong σ (1)).toInt64)) ((cWrong σ (2)).toInt64)) ((cWrong σ (3)).toInt64)) ((cWrong σ (4)).toInt64)) ((cEarliest σ).toInt64)) (Nat.lt_succ_self _) (by omega) (rfl)

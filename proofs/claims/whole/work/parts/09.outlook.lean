/-! the outlook: odds from day to day, the four tables -/
def dnI : Nat → Int32
  | 0 => -1
  | k + 1 => nI k
theorem dnI_dec (k : Nat) : nI k + Int32.ofInt (-1) = dnI k := by
  cases k with
  | zero => decide
  | succ k => exact nI_dec k
theorem g2L_at {U : Nat → Nat → Int64} {k v : Nat} {x : Int64} : va_up U k (vp_updL (U k) v x) k v = x := by simp [va_up, vp_updL]
theorem g2L_ne {U : Nat → Nat → Int64} {k v i j : Nat} {x : Int64} (h : ¬ (i = k ∧ j = v)) : va_up U k (vp_updL (U k) v x) i j = U i j := by
  by_cases e : i = k
  · subst e; simp only [va_up, if_true, vp_updL, if_neg (show ¬ j = v from fun q => h ⟨rfl, q⟩)]
  · simp only [va_up, if_neg e]
theorem g2I_at {U : Nat → Nat → Int32} {k v : Nat} {x : Int32} : va_up U k (upd (U k) v x) k v = x := by simp [va_up, upd]
theorem g2I_ne {U : Nat → Nat → Int32} {k v i j : Nat} {x : Int32} (h : ¬ (i = k ∧ j = v)) : va_up U k (upd (U k) v x) i j = U i j := by
  by_cases e : i = k
  · subst e; simp only [va_up, if_true, upd, if_neg (show ¬ j = v from fun q => h ⟨rfl, q⟩)]
  · simp only [va_up, if_neg e]
def F_rdg (rd : Nat → Int32) (k : Nat) : Int32 := if 1 ≤ k ∧ k ≤ 4 then rd k else -1
def F_step (tn : Nat → Int32) (sl : Int32) (rd : Nat → Int32) (k v w : Nat) : Int64 := (tn (v * 3 + w)).toInt64 * (F_fit sl (F_rdg rd k) w).toInt64
def smP (f : Nat → Int64) : Nat → Int64
  | 0 => 0
  | w + 1 => smP f w + f w
def mxP (f : Nat → Int64) : Nat → Int64
  | 0 => 0
  | w + 1 => mx64 (mxP f w) (f w)
def wyP (st : Nat → Int64) (nx : Nat → Int32) : Nat → Int32
  | 0 => 0
  | w + 1 => wyP st nx w + (if st w ≤ 0 then 0 else nx w)
def bhD (stp : Nat → Nat → Nat → Int64) : Nat → Nat → Int64
  | 0, _ => 1
  | d + 1, v => smP (fun w => stp (6 - d) v w * bhD stp d w) 3
def mxD (stp : Nat → Nat → Nat → Int64) : Nat → Nat → Int64
  | 0, _ => 1
  | d + 1, v => mxP (fun w => stp (6 - d) v w * mxD stp d w) 3
def wyD (stp : Nat → Nat → Nat → Int64) : Nat → Nat → Int32
  | 0, _ => 1
  | d + 1, v => wyP (fun w => stp (6 - d) v w) (fun w => wyD stp d w) 3
def unD (stp : Nat → Nat → Nat → Int64) (w0 : Nat) : Nat → Nat → Int64
  | 0, w => if w = w0 then 1 else 0
  | k + 1, w => smP (fun v => unD stp w0 k v * stp (k + 1) v w) 3
def RowOK (stp : Nat → Nat → Nat → Int64) (B M : Nat → Nat → Int64) (P : Nat → Nat → Int32) (k v : Nat) : Prop := B k v = bhD stp (6 - k) v ∧ M k v = mxD stp (6 - k) v ∧ P k v = wyD stp (6 - k) v
theorem row_bh (stp : Nat → Nat → Nat → Int64) {k v : Nat} (hk : k < 6) : bhD stp (6 - k) v = smP (fun w => stp (k + 1) v w * bhD stp (6 - (k + 1)) w) 3 := by
  obtain ⟨d, hd⟩ : ∃ d, 6 - k = d + 1 := ⟨5 - k, by omega⟩
  rw [hd, show 6 - (k + 1) = d by omega, show k + 1 = 6 - d by omega]; rfl
theorem row_mx (stp : Nat → Nat → Nat → Int64) {k v : Nat} (hk : k < 6) : mxD stp (6 - k) v = mxP (fun w => stp (k + 1) v w * mxD stp (6 - (k + 1)) w) 3 := by
  obtain ⟨d, hd⟩ : ∃ d, 6 - k = d + 1 := ⟨5 - k, by omega⟩
  rw [hd, show 6 - (k + 1) = d by omega, show k + 1 = 6 - d by omega]; rfl
theorem row_wy (stp : Nat → Nat → Nat → Int64) {k v : Nat} (hk : k < 6) : wyD stp (6 - k) v = wyP (fun w => stp (k + 1) v w) (fun w => wyD stp (6 - (k + 1)) w) 3 := by
  obtain ⟨d, hd⟩ : ∃ d, 6 - k = d + 1 := ⟨5 - k, by omega⟩
  rw [hd, show 6 - (k + 1) = d by omega, show k + 1 = 6 - d by omega]; rfl
theorem GrJ.fr {D : va_G} {h h1 : qH} {a : Nat} {U : Nat → Nat → Int64} (H : GrJ D h a U) (o : ∀ q, a ≤ q → q < a + 8 → h1 q = h q) : GrJ D h1 a U := ⟨(o _ (by omega) (by omega)).trans H.1, fun i hi => (o _ (by omega) (by omega)).trans (H.2 i hi)⟩
theorem GrI.fr {D : va_G} {h h1 : qH} {a : Nat} {U : Nat → Nat → Int32} (H : GrI D h a U) (o : ∀ q, a ≤ q → q < a + 8 → h1 q = h q) : GrI D h1 a U := ⟨(o _ (by omega) (by omega)).trans H.1, fun i hi => (o _ (by omega) (by omega)).trans (H.2 i hi)⟩
theorem OlAt.fr {D : va_G} {h h1 : qH} {a s : Nat} {rd : Nat → Int32} {dn w : Int32} (H : OlAt D h a s rd dn w) (o : ∀ q, a ≤ q → q < a + 2 → h1 q = h q) : OlAt D h1 a s rd dn w := ⟨(o _ (by omega) (by omega)).trans H.1, (o _ (by omega) (by omega)).trans H.2⟩
theorem StAt.fr {D : va_G} {h h1 : qH} {a : Nat} {tn : Nat → Int32} {e sl : Int32} (H : StAt D h a tn e sl) (o : ∀ q, a ≤ q → q < a + 2 → h1 q = h q) : StAt D h1 a tn e sl := ⟨(o _ (by omega) (by omega)).trans H.1, (o _ (by omega) (by omega)).trans H.2⟩
theorem PgAt.fr {D : va_G} {h h1 : qH} {a : Nat} {cs : Nat → Int32} {n : Int32} (H : PgAt D h a cs n) (o : ∀ q, a ≤ q → q < a + 2 → h1 q = h q) : PgAt D h1 a cs n := ⟨(o _ (by omega) (by omega)).trans H.1, (o _ (by omega) (by omega)).trans H.2⟩
theorem BkAt.fr {D : va_G} {h h1 : qH} {a : Nat} {ws rs : Nat → Int32} {n : Int32} (H : BkAt D h a ws rs n) (o : ∀ q, a ≤ q → q < a + 3 → h1 q = h q) : BkAt D h1 a ws rs n := ⟨(o _ (by omega) (by omega)).trans H.1, (o _ (by omega) (by omega)).trans H.2.1, (o _ (by omega) (by omega)).trans H.2.2⟩
set_option maxHeartbeats 4000000 in
set_option maxRecDepth 100000 in
theorem k_X7_readingOf (l : Launch) (D : va_G) (b z : Nat) {h : qH} {a s : Nat} {rd : Nat → Int32} {dn w0 : Int32} (hOl : OlAt D h a s rd dn w0) {k : Nat} (hk : k < 7) : qMi l D b yX7_readingOf cX7_readingOf 2 .int 0 0 [.ref (a), .int (nI (k))] h z (fun r h' => r = F_rdg rd k ∧ h' = h) := by
  refine q_i (L := [(0, .ref (a)), (1, .int (nI (k)))]) (own := RX7) (by decide) rfl (Nat.le_of_ble_eq_true rfl) rfl ?_
  intro X C ret
  refine g_iload_n C 1 dX7_readingOf_0 rfl rfl rfl ?_
  refine g_iconst C (v := 1) dX7_readingOf_1 (by decide) rfl ?_
  refine g_icmp_lt C dX7_readingOf_2 (tgt := 19) (by decide) (pc' := 5) rfl ?_ ?_
  · intro c2
    replace c2 := (nI_ltI (a := k) (b := 1) (by omega) (by omega)).mp c2
    refine g_iconst C (v := -1) dX7_readingOf_19 (by decide) rfl ?_
    exact ret _ _ _ _ dX7_readingOf_20 rfl (⟨by unfold F_rdg; rw [if_neg (by omega)], rfl⟩)
  · intro c2
    replace c2 := (not_congr (nI_ltI (a := k) (b := 1) (by omega) (by omega))).mp c2
    refine g_iload_n C 1 dX7_readingOf_5 rfl rfl rfl ?_
    refine g_iconst C (v := 4) dX7_readingOf_6 (by decide) rfl ?_
    refine g_icmp_gt C dX7_readingOf_7 (tgt := 19) (by decide) (pc' := 10) rfl ?_ ?_
    · intro c7
      replace c7 := (nI_ltI (a := 4) (b := k) (by omega) (by omega)).mp c7
      refine g_iconst C (v := -1) dX7_readingOf_19 (by decide) rfl ?_
      exact ret _ _ _ _ dX7_readingOf_20 rfl (⟨by unfold F_rdg; rw [if_neg (by omega)], rfl⟩)
    · intro c7
      replace c7 := (not_congr (nI_ltI (a := 4) (b := k) (by omega) (by omega))).mp c7
      refine g_aload_n C 0 dX7_readingOf_10 rfl rfl rfl ?_
      refine gf_7_9 C (hOl.1) (v := .ref (a + 1)) rfl dX7_readingOf_11 rfl ?_
      refine g_iload_n C 1 dX7_readingOf_14 rfl rfl rfl ?_
      refine g_iald' C (hOl.2) (j := k) rfl (by omega) (by decide) dX7_readingOf_15 rfl ?_
      refine g_goto C dX7_readingOf_16 (tgt := 20) (by decide) ?_
      exact ret _ _ _ _ dX7_readingOf_20 rfl (⟨by unfold F_rdg; rw [if_pos (by omega)], rfl⟩)
set_option maxHeartbeats 4000000 in
set_option maxRecDepth 100000 in
theorem k_X7_stepOdds (l : Launch) (D : va_G) (b z : Nat) {h : qH} {a s : Nat} {rd : Nat → Int32} {dn w0 : Int32} (hOl : OlAt D h a s rd dn w0) {tn : Nat → Int32} {e : Nat} {sl : Int32} (he : e < 10) (hSt : StAt D h s tn (nI e) sl) {k v w : Nat} (hk : k < 7) (hv : v < 3) (hw : w < 3) : qMl l D b yX7_stepOdds cX7_stepOdds 4 1 23 [.ref (a), .int (nI (k)), .int (nI (v)), .int (nI (w))] h z (fun r h' => r = F_step tn sl rd k v w ∧ h' = h) := by
  refine q_l (L := [(0, .ref (a)), (1, .int (nI (k))), (2, .int (nI (v))), (3, .int (nI (w)))]) (own := RX7) (by decide) rfl (Nat.le_of_ble_eq_true rfl) rfl ?_
  intro X C ret
  refine g_aload_n C 0 dX7_stepOdds_0 rfl rfl rfl ?_
  refine gf_7_31 C (hOl.1) (v := .ref (s)) rfl dX7_stepOdds_1 rfl ?_
  refine g_iload_n C 2 dX7_stepOdds_4 rfl rfl rfl ?_
  refine g_iload_n C 3 dX7_stepOdds_5 rfl rfl rfl ?_
  refine g_callVi C (As := [.int (nI (v)), .int (nI (w))]) (q := (RX9, TX9, 3)) (k_X9_tenthsFrom l D b z he hSt (v := v) (w := w) (by omega) (by omega)) hw_7_88 (hSt.1) rfl (by decide) rfl rfl (Nat.le_of_ble_eq_true rfl) ⟨Nat.zero_le _, Nat.zero_le _⟩ dX7_stepOdds_6 (pc' := 9) rfl ?_
  rintro r1 h9 ⟨er, e9⟩
  subst h9; subst er
  refine g_i2l C dX7_stepOdds_9 rfl ?_
  refine g_aload_n C 0 dX7_stepOdds_10 rfl rfl rfl ?_
  refine gf_7_31 C (hOl.1) (v := .ref (s)) rfl dX7_stepOdds_11 rfl ?_
  refine g_aload_n C 0 dX7_stepOdds_14 rfl rfl rfl ?_
  refine g_iload_n C 1 dX7_stepOdds_15 rfl rfl rfl ?_
  refine g_callVi C (As := [.int (nI (k))]) (q := (RX7, TX7, 8)) (k_X7_readingOf l D b z hOl (k := k) (by omega)) hw_7_91 (hOl.1) rfl (by decide) rfl rfl (Nat.le_of_ble_eq_true rfl) ⟨Nat.zero_le _, Nat.zero_le _⟩ dX7_stepOdds_16 (pc' := 19) rfl ?_
  rintro r2 h9 ⟨er, e9⟩
  subst h9; subst er
  refine g_iload_n C 3 dX7_stepOdds_19 rfl rfl rfl ?_
  refine g_callVi C (As := [.int (F_rdg rd (k)), .int (nI (w))]) (q := (RX9, TX9, 3)) (k_X9_fit l D b z he hSt (F_rdg rd (k)) (w := w) (by omega)) hw_7_69 (hSt.1) rfl (by decide) rfl rfl (Nat.le_of_ble_eq_true rfl) ⟨Nat.zero_le _, Nat.zero_le _⟩ dX7_stepOdds_20 (pc' := 23) rfl ?_
  rintro r3 h9 ⟨er, e9⟩
  subst h9; subst er
  refine g_i2l C dX7_stepOdds_23 rfl ?_
  refine g_lmul C dX7_stepOdds_24 rfl ?_
  exact ret _ _ _ _ dX7_stepOdds_25 (⟨rfl, rfl⟩)
set_option maxHeartbeats 4000000 in
set_option maxRecDepth 100000 in
theorem k_X7_reckonBehind (l : Launch) (D : va_G) (b z : Nat) {h : qH} {a s : Nat} {rd : Nat → Int32} {dn w0 : Int32} (hOl : OlAt D h a s rd dn w0) {tn : Nat → Int32} {e : Nat} {sl : Int32} (he : e < 10) (hSt : StAt D h s tn (nI e) sl) {B M : Nat → Nat → Int64} {P : Nat → Nat → Int32} (hB : GrJ D h (a + 10) B) (hM : GrJ D h (a + 18) M) (hP : GrI D h (a + 26) P) (hds : s + 2 ≤ a ∨ a + 34 ≤ s) : qMv l D b yX7_reckonBehind cX7_reckonBehind 6 2 46 [.ref (a)] h z (fun h' => (∃ B' M' P', GrJ D h' (a + 10) B' ∧ GrJ D h' (a + 18) M' ∧ GrI D h' (a + 26) P' ∧ ∀ i, i ≤ 6 → ∀ j, j < 3 → RowOK (F_step tn sl rd) B' M' P' i j) ∧ ∀ q, (q < a + 10 ∨ a + 34 ≤ q) → h' q = h q) := by
  refine q_v (L := [(0, .ref (a))]) (own := RX7) (by decide) rfl (Nat.le_of_ble_eq_true rfl) rfl ?_
  intro X C ret
  have hO : ∀ q, (q < a + 10 ∨ a + 34 ≤ q) → h q = h q := fun _ _ => rfl
  refine g_iconst C (v := 0) dX7_reckonBehind_0 (by decide) rfl ?_
  refine g_istore_n C ([(1, .int (0)), (0, .ref (a))]) dX7_reckonBehind_1 rfl (by decide) rfl rfl ?_
  have loop2 : ∀ (N : Nat) (v : Nat) (h1 : qH) (B1 : Nat → Nat → Int64) (M1 : Nat → Nat → Int64) (P1 : Nat → Nat → Int32), 3 - v < N → (v ≤ 3) → (OlAt D h1 a s rd dn w0) → (StAt D h1 s tn (nI e) sl) → (GrJ D h1 (a + 10) B1) → (GrJ D h1 (a + 18) M1) → (GrI D h1 (a + 26) P1) → (∀ q, (q < a + 10 ∨ a + 34 ≤ q) → h1 q = h q) → (∀ j, j < v → B1 6 j = 1 ∧ M1 6 j = 1 ∧ P1 6 j = 1) → qG X 0 0 z h1 2 [(1, .int (nI (v))), (0, .ref (a))] [] := by
    intro N
    induction N with
    | zero => intro v h1 B1 M1 P1 hm; exact absurd hm (Nat.not_lt_zero _)
    | succ N ih2 =>
      intro v h1 B1 M1 P1 hm hv hOl hSt hB hM hP hO hr
      refine g_iload_n C 0 dX7_reckonBehind_2 rfl rfl rfl ?_
      refine g_iconst C (v := 3) dX7_reckonBehind_3 (by decide) rfl ?_
      refine g_icmp_ge C dX7_reckonBehind_4 (tgt := 43) (by decide) (pc' := 7) rfl ?_ ?_
      · intro c4
        replace c4 := (nI_leI (a := 3) (b := v) (by omega) (by omega)).mp c4
        refine g_iconst C (v := 5) dX7_reckonBehind_43 (by decide) rfl ?_
        refine g_istore_n C ([(1, .int (5)), (0, .ref (a))]) dX7_reckonBehind_44 rfl (by decide) rfl rfl ?_
        have loop45 : ∀ (N : Nat) (c : Nat) (h2 : qH) (B2 : Nat → Nat → Int64) (M2 : Nat → Nat → Int64) (P2 : Nat → Nat → Int32), c < N → (c ≤ 6) → (OlAt D h2 a s rd dn w0) → (StAt D h2 s tn (nI e) sl) → (GrJ D h2 (a + 10) B2) → (GrJ D h2 (a + 18) M2) → (GrI D h2 (a + 26) P2) → (∀ q, (q < a + 10 ∨ a + 34 ≤ q) → h2 q = h q) → (∀ i, c ≤ i → i ≤ 6 → ∀ j, j < 3 → RowOK (F_step tn sl rd) B2 M2 P2 i j) → qG X 0 0 z h2 45 [(1, .int (dnI c)), (0, .ref (a))] [] := by
          intro N
          induction N with
          | zero => intro c h2 B2 M2 P2 hm; exact absurd hm (Nat.not_lt_zero _)
          | succ N ih45 =>
            intro c h2 B2 M2 P2 hm hc hOl hSt hB hM hP hO hR
            rcases c with _ | k
            · skip
              change qG X 0 0 z h2 45 [(1, .int ((-1))), (0, .ref (a))] []
              refine g_iload_n C 0 dX7_reckonBehind_45 rfl rfl rfl ?_
              refine g_if_lt C dX7_reckonBehind_46 (tgt := 207) (by decide) (pc' := 49) rfl (fun _ => ?_) (fun c46 => absurd (by decide) c46)
              exact ret _ _ _ dX7_reckonBehind_207 (⟨⟨_, _, _, hB, hM, hP, fun i g2 j g3 => hR i (by omega) g2 j g3⟩, hO⟩)
            change qG X 0 0 z h2 45 [(1, .int (nI (k))), (0, .ref (a))] []
            refine g_iload_n C 0 dX7_reckonBehind_45 rfl rfl rfl ?_
            refine g_if_lt C dX7_reckonBehind_46 (tgt := 207) (by decide) (pc' := 49) rfl ?_ ?_
            · intro c46
              replace c46 := (nI_ltI (a := k) (b := 0) (by omega) (by omega)).mp c46
              exact ret _ _ _ dX7_reckonBehind_207 (⟨⟨_, _, _, hB, hM, hP, fun i g2 j g3 => hR i (by omega) g2 j g3⟩, hO⟩)
            · intro c46
              replace c46 := (not_congr (nI_ltI (a := k) (b := 0) (by omega) (by omega))).mp c46
              refine g_iconst C (v := 0) dX7_reckonBehind_49 (by decide) rfl ?_
              refine g_istore_n C ([(2, .int (0)), (1, .int (nI (k))), (0, .ref (a))]) dX7_reckonBehind_50 rfl (by decide) rfl rfl ?_
              have loop51 : ∀ (N : Nat) (v : Nat) (h3 : qH) (B3 : Nat → Nat → Int64) (M3 : Nat → Nat → Int64) (P3 : Nat → Nat → Int32), 3 - v < N → (v ≤ 3) → (OlAt D h3 a s rd dn w0) → (StAt D h3 s tn (nI e) sl) → (GrJ D h3 (a + 10) B3) → (GrJ D h3 (a + 18) M3) → (GrI D h3 (a + 26) P3) → (∀ q, (q < a + 10 ∨ a + 34 ≤ q) → h3 q = h q) → (∀ i, k + 1 ≤ i → i ≤ 6 → ∀ j, j < 3 → RowOK (F_step tn sl rd) B3 M3 P3 i j) → (∀ j, j < v → RowOK (F_step tn sl rd) B3 M3 P3 k j) → qG X 0 0 z h3 51 [(2, .int (nI (v))), (1, .int (nI (k))), (0, .ref (a))] [] := by
                intro N
                induction N with
                | zero => intro v h3 B3 M3 P3 hm; exact absurd hm (Nat.not_lt_zero _)
                | succ N ih51 =>
                  intro v h3 B3 M3 P3 hm hv hOl hSt hB hM hP hO hR hV
                  refine g_iload_n C 0 dX7_reckonBehind_51 rfl rfl rfl ?_
                  refine g_iconst C (v := 3) dX7_reckonBehind_52 (by decide) rfl ?_
                  refine g_icmp_ge C dX7_reckonBehind_53 (tgt := 201) (by decide) (pc' := 56) rfl ?_ ?_
                  · intro c53
                    replace c53 := (nI_leI (a := 3) (b := v) (by omega) (by omega)).mp c53
                    refine g_iinc C (v := dnI (k)) 1 ([(1, .int (dnI (k))), (2, .int (nI (v))), (0, .ref (a))]) dX7_reckonBehind_201 rfl (dnI_dec _) (by decide) rfl rfl ?_
                    refine g_goto C dX7_reckonBehind_204 (tgt := 45) (by decide) ?_
                    refine q_lsub [0, 2] (L' := [(1, .int (dnI (k))), (0, .ref (a))]) rfl ?_
                    exact ih45 (k) (h3) (B3) (M3) (P3) (by omega) (by omega) (hOl) (hSt) (hB) (hM) (hP) (hO) (fun i g1 g2 j g3 => by by_cases e1 : i = k; (subst e1; exact hV j (by omega)); exact hR i (by omega) g2 j g3)
                  · intro c53
                    replace c53 := (not_congr (nI_leI (a := 3) (b := v) (by omega) (by omega))).mp c53
                    refine g_aload_n C 2 dX7_reckonBehind_56 rfl rfl rfl ?_
                    refine gf_7_20 C (hOl.1) (v := .ref (a + 10)) rfl dX7_reckonBehind_57 rfl ?_
                    refine g_iload_n C 1 dX7_reckonBehind_60 rfl rfl rfl ?_
                    refine g_aaldJJ C (hB.1) (j := k) rfl (by omega) (by decide) (gridF_at (by omega)) dX7_reckonBehind_61 rfl ?_
                    refine g_iload_n C 0 dX7_reckonBehind_62 rfl rfl rfl ?_
                    refine g_lconst C (v := 0) dX7_reckonBehind_63 (by decide) rfl ?_
                    refine g_last' C (hB.2 (k) (by omega)) (j := v) rfl (by omega) (by decide) dX7_reckonBehind_64 (pc' := 65) rfl (fun h1 e2 o3 => ?_)
                    have hB : GrJ D h1 (a + 10) (va_up (B3) (k) (vp_updL (B3 (k)) (v) (0))) := hB.put (by omega) e2 o3
                    have hOl : OlAt D h1 (a) (s) (rd) (dn) (w0) := ⟨(o3 _ (by omega)).trans hOl.1, (o3 _ (by omega)).trans hOl.2⟩
                    have hSt : StAt D h1 (s) (tn) (nI (e)) (sl) := ⟨(o3 _ (by omega)).trans hSt.1, (o3 _ (by omega)).trans hSt.2⟩
                    have hM : GrJ D h1 (a + 18) (M3) := ⟨(o3 _ (by omega)).trans hM.1, fun i hi => (o3 _ (by omega)).trans (hM.2 i hi)⟩
                    have hP : GrI D h1 (a + 26) (P3) := ⟨(o3 _ (by omega)).trans hP.1, fun i hi => (o3 _ (by omega)).trans (hP.2 i hi)⟩
                    have hO : ∀ q, (q < a + 10 ∨ a + 34 ≤ q) → h1 q = h q := fun q hq => (o3 q (by omega)).trans (hO q hq)
                    refine g_aload_n C 2 dX7_reckonBehind_65 rfl rfl rfl ?_
                    refine gf_7_23 C (hOl.1) (v := .ref (a + 18)) rfl dX7_reckonBehind_66 rfl ?_
                    refine g_iload_n C 1 dX7_reckonBehind_69 rfl rfl rfl ?_
                    refine g_aaldJJ C (hM.1) (j := k) rfl (by omega) (by decide) (gridF_at (by omega)) dX7_reckonBehind_70 rfl ?_
                    refine g_iload_n C 0 dX7_reckonBehind_71 rfl rfl rfl ?_
                    refine g_lconst C (v := 0) dX7_reckonBehind_72 (by decide) rfl ?_
                    refine g_last' C (hM.2 (k) (by omega)) (j := v) rfl (by omega) (by decide) dX7_reckonBehind_73 (pc' := 74) rfl (fun h4 e5 o6 => ?_)
                    have hM : GrJ D h4 (a + 18) (va_up (M3) (k) (vp_updL (M3 (k)) (v) (0))) := hM.put (by omega) e5 o6
                    have hOl : OlAt D h4 (a) (s) (rd) (dn) (w0) := ⟨(o6 _ (by omega)).trans hOl.1, (o6 _ (by omega)).trans hOl.2⟩
                    have hSt : StAt D h4 (s) (tn) (nI (e)) (sl) := ⟨(o6 _ (by omega)).trans hSt.1, (o6 _ (by omega)).trans hSt.2⟩
                    have hB : GrJ D h4 (a + 10) (va_up (B3) (k) (vp_updL (B3 (k)) (v) (0))) := ⟨(o6 _ (by omega)).trans hB.1, fun i hi => (o6 _ (by omega)).trans (hB.2 i hi)⟩
                    have hP : GrI D h4 (a + 26) (P3) := ⟨(o6 _ (by omega)).trans hP.1, fun i hi => (o6 _ (by omega)).trans (hP.2 i hi)⟩
                    have hO : ∀ q, (q < a + 10 ∨ a + 34 ≤ q) → h4 q = h q := fun q hq => (o6 q (by omega)).trans (hO q hq)
                    refine g_aload_n C 2 dX7_reckonBehind_74 rfl rfl rfl ?_
                    refine gf_7_28 C (hOl.1) (v := .ref (a + 26)) rfl dX7_reckonBehind_75 rfl ?_
                    refine g_iload_n C 1 dX7_reckonBehind_78 rfl rfl rfl ?_
                    refine g_aaldII C (hP.1) (j := k) rfl (by omega) (by decide) (gridF_at (by omega)) dX7_reckonBehind_79 rfl ?_
                    refine g_iload_n C 0 dX7_reckonBehind_80 rfl rfl rfl ?_
                    refine g_iconst C (v := 0) dX7_reckonBehind_81 (by decide) rfl ?_
                    refine g_iast' C (hP.2 (k) (by omega)) (j := v) rfl (by omega) (by decide) dX7_reckonBehind_82 (pc' := 83) rfl (fun h7 e8 o9 => ?_)
                    have hP : GrI D h7 (a + 26) (va_up (P3) (k) (upd (P3 (k)) (v) (0))) := hP.put (by omega) e8 o9
                    have hOl : OlAt D h7 (a) (s) (rd) (dn) (w0) := ⟨(o9 _ (by omega)).trans hOl.1, (o9 _ (by omega)).trans hOl.2⟩
                    have hSt : StAt D h7 (s) (tn) (nI (e)) (sl) := ⟨(o9 _ (by omega)).trans hSt.1, (o9 _ (by omega)).trans hSt.2⟩
                    have hB : GrJ D h7 (a + 10) (va_up (B3) (k) (vp_updL (B3 (k)) (v) (0))) := ⟨(o9 _ (by omega)).trans hB.1, fun i hi => (o9 _ (by omega)).trans (hB.2 i hi)⟩
                    have hM : GrJ D h7 (a + 18) (va_up (M3) (k) (vp_updL (M3 (k)) (v) (0))) := ⟨(o9 _ (by omega)).trans hM.1, fun i hi => (o9 _ (by omega)).trans (hM.2 i hi)⟩
                    have hO : ∀ q, (q < a + 10 ∨ a + 34 ≤ q) → h7 q = h q := fun q hq => (o9 q (by omega)).trans (hO q hq)
                    refine g_iconst C (v := 0) dX7_reckonBehind_83 (by decide) rfl ?_
                    refine g_istore_n C ([(3, .int (0)), (2, .int (nI (v))), (1, .int (nI (k))), (0, .ref (a))]) dX7_reckonBehind_84 rfl (by decide) rfl rfl ?_
                    have loop85 : ∀ (N : Nat) (w : Nat) (h4 : qH) (B4 : Nat → Nat → Int64) (M4 : Nat → Nat → Int64) (P4 : Nat → Nat → Int32), 3 - w < N → (w ≤ 3) → (OlAt D h4 a s rd dn w0) → (StAt D h4 s tn (nI e) sl) → (GrJ D h4 (a + 10) B4) → (GrJ D h4 (a + 18) M4) → (GrI D h4 (a + 26) P4) → (∀ q, (q < a + 10 ∨ a + 34 ≤ q) → h4 q = h q) → (∀ i, k + 1 ≤ i → i ≤ 6 → ∀ j, j < 3 → RowOK (F_step tn sl rd) B4 M4 P4 i j) → (∀ j, j < v → RowOK (F_step tn sl rd) B4 M4 P4 k j) → (B4 k v = smP (fun w => (F_step tn sl rd) (k + 1) v w * bhD (F_step tn sl rd) (6 - (k + 1)) w) w) → (M4 k v = mxP (fun w => (F_step tn sl rd) (k + 1) v w * mxD (F_step tn sl rd) (6 - (k + 1)) w) w) → (P4 k v = wyP (fun w => (F_step tn sl rd) (k + 1) v w) (fun w => wyD (F_step tn sl rd) (6 - (k + 1)) w) w) → qG X 0 0 z h4 85 [(3, .int (nI (w))), (2, .int (nI (v))), (1, .int (nI (k))), (0, .ref (a))] [] := by
                      intro N
                      induction N with
                      | zero => intro w h4 B4 M4 P4 hm; exact absurd hm (Nat.not_lt_zero _)
                      | succ N ih85 =>
                        intro w h4 B4 M4 P4 hm hw hOl hSt hB hM hP hO hR hV hb hm hp
                        refine g_iload_n C 0 dX7_reckonBehind_85 rfl rfl rfl ?_
                        refine g_iconst C (v := 3) dX7_reckonBehind_86 (by decide) rfl ?_
                        refine g_icmp_ge C dX7_reckonBehind_87 (tgt := 195) (by decide) (pc' := 90) rfl ?_ ?_
                        · intro c87
                          replace c87 := (nI_leI (a := 3) (b := w) (by omega) (by omega)).mp c87
                          refine g_iinc C (v := nI (v + 1)) 1 ([(2, .int (nI (v + 1))), (3, .int (nI (w))), (1, .int (nI (k))), (0, .ref (a))]) dX7_reckonBehind_195 rfl (nI_1 _) (by decide) rfl rfl ?_
                          refine g_goto C dX7_reckonBehind_198 (tgt := 51) (by decide) ?_
                          refine q_lsub [0, 2, 3] (L' := [(2, .int (nI (v + 1))), (1, .int (nI (k))), (0, .ref (a))]) rfl ?_
                          exact ih51 (v + 1) (h4) (B4) (M4) (P4) (by omega) (by omega) (hOl) (hSt) (hB) (hM) (hP) (hO) (hR) (fun j g => by by_cases e1 : j = v; (subst e1; obtain rfl : w = 3 := (by omega); exact ⟨hb.trans (row_bh _ (by omega)).symm, hm.trans (row_mx _ (by omega)).symm, hp.trans (row_wy _ (by omega)).symm⟩); exact hV j (by omega))
                        · intro c87
                          replace c87 := (not_congr (nI_leI (a := 3) (b := w) (by omega) (by omega))).mp c87
                          refine g_aload_n C 3 dX7_reckonBehind_90 rfl rfl rfl ?_
                          refine g_iload_n C 2 dX7_reckonBehind_91 rfl rfl rfl ?_
                          refine g_iconst C (v := 1) dX7_reckonBehind_92 (by decide) rfl ?_
                          refine g_iadd C dX7_reckonBehind_93 rfl ?_
                          refine g_topi (y := nI (k + 1)) (nI_add _ _) ?_
                          refine g_iload_n C 1 dX7_reckonBehind_94 rfl rfl rfl ?_
                          refine g_iload_n C 0 dX7_reckonBehind_95 rfl rfl rfl ?_
                          refine g_callVl C (As := [.int (nI ((k + 1))), .int (nI (v)), .int (nI (w))]) (q := (RX7, TX7, 8)) (k_X7_stepOdds l D b z hOl he hSt (k := (k + 1)) (v := v) (w := w) (by omega) (by omega) (by omega)) hw_7_65 (hOl.1) rfl (by decide) rfl rfl (Nat.le_of_ble_eq_true rfl) ⟨Nat.zero_le _, Nat.zero_le _⟩ dX7_reckonBehind_96 (pc' := 99) rfl ?_
                          rintro r10 h9 ⟨er, e9⟩
                          subst h9; subst er
                          refine g_lstore C ([(4, .long (F_step tn sl rd ((k + 1)) (v) (w))), (3, .int (nI (w))), (2, .int (nI (v))), (1, .int (nI (k))), (0, .ref (a))]) dX7_reckonBehind_99 (by decide) rfl rfl ?_
                          refine g_aload_n C 4 dX7_reckonBehind_101 rfl rfl rfl ?_
                          refine gf_7_20 C (hOl.1) (v := .ref (a + 10)) rfl dX7_reckonBehind_102 rfl ?_
                          refine g_iload_n C 3 dX7_reckonBehind_105 rfl rfl rfl ?_
                          refine g_aaldJJ C (hB.1) (j := k) rfl (by omega) (by decide) (gridF_at (by omega)) dX7_reckonBehind_106 rfl ?_
                          refine g_iload_n C 2 dX7_reckonBehind_107 rfl rfl rfl ?_
                          refine g_dup2 C rfl rfl dX7_reckonBehind_108 rfl ?_
                          refine g_lald' C (hB.2 (k) (by omega)) (j := v) rfl (by omega) (by decide) dX7_reckonBehind_109 rfl ?_
                          refine g_lload C 0 dX7_reckonBehind_110 rfl rfl ?_
                          refine g_aload_n C 4 dX7_reckonBehind_112 rfl rfl rfl ?_
                          refine gf_7_20 C (hOl.1) (v := .ref (a + 10)) rfl dX7_reckonBehind_113 rfl ?_
                          refine g_iload_n C 3 dX7_reckonBehind_116 rfl rfl rfl ?_
                          refine g_iconst C (v := 1) dX7_reckonBehind_117 (by decide) rfl ?_
                          refine g_iadd C dX7_reckonBehind_118 rfl ?_
                          refine g_topi (y := nI (k + 1)) (nI_add _ _) ?_
                          refine g_aaldJJ C (hB.1) (j := (k + 1)) rfl (by omega) (by decide) (gridF_at (by omega)) dX7_reckonBehind_119 rfl ?_
                          refine g_iload_n C 1 dX7_reckonBehind_120 rfl rfl rfl ?_
                          refine g_lald' C (hB.2 ((k + 1)) (by omega)) (j := w) rfl (by omega) (by decide) dX7_reckonBehind_121 rfl ?_
                          refine g_lmul C dX7_reckonBehind_122 rfl ?_
                          refine g_ladd C dX7_reckonBehind_123 rfl ?_
                          refine g_last' C (hB.2 (k) (by omega)) (j := v) rfl (by omega) (by decide) dX7_reckonBehind_124 (pc' := 125) rfl (fun h11 e12 o13 => ?_)
                          have hB : GrJ D h11 (a + 10) (va_up (B4) (k) (vp_updL (B4 (k)) (v) ((B4 (k) (v)) + ((F_step tn sl rd ((k + 1)) (v) (w)) * (B4 ((k + 1)) (w)))))) := hB.put (by omega) e12 o13
                          have hOl : OlAt D h11 (a) (s) (rd) (dn) (w0) := ⟨(o13 _ (by omega)).trans hOl.1, (o13 _ (by omega)).trans hOl.2⟩
                          have hSt : StAt D h11 (s) (tn) (nI (e)) (sl) := ⟨(o13 _ (by omega)).trans hSt.1, (o13 _ (by omega)).trans hSt.2⟩
                          have hM : GrJ D h11 (a + 18) (M4) := ⟨(o13 _ (by omega)).trans hM.1, fun i hi => (o13 _ (by omega)).trans (hM.2 i hi)⟩
                          have hP : GrI D h11 (a + 26) (P4) := ⟨(o13 _ (by omega)).trans hP.1, fun i hi => (o13 _ (by omega)).trans (hP.2 i hi)⟩
                          have hO : ∀ q, (q < a + 10 ∨ a + 34 ≤ q) → h11 q = h q := fun q hq => (o13 q (by omega)).trans (hO q hq)
                          refine g_aload_n C 4 dX7_reckonBehind_125 rfl rfl rfl ?_
                          refine gf_7_23 C (hOl.1) (v := .ref (a + 18)) rfl dX7_reckonBehind_126 rfl ?_
                          refine g_iload_n C 3 dX7_reckonBehind_129 rfl rfl rfl ?_
                          refine g_aaldJJ C (hM.1) (j := k) rfl (by omega) (by decide) (gridF_at (by omega)) dX7_reckonBehind_130 rfl ?_
                          refine g_iload_n C 2 dX7_reckonBehind_131 rfl rfl rfl ?_
                          refine g_aload_n C 4 dX7_reckonBehind_132 rfl rfl rfl ?_
                          refine gf_7_23 C (hOl.1) (v := .ref (a + 18)) rfl dX7_reckonBehind_133 rfl ?_
                          refine g_iload_n C 3 dX7_reckonBehind_136 rfl rfl rfl ?_
                          refine g_aaldJJ C (hM.1) (j := k) rfl (by omega) (by decide) (gridF_at (by omega)) dX7_reckonBehind_137 rfl ?_
                          refine g_iload_n C 2 dX7_reckonBehind_138 rfl rfl rfl ?_
                          refine g_lald' C (hM.2 (k) (by omega)) (j := v) rfl (by omega) (by decide) dX7_reckonBehind_139 rfl ?_
                          refine g_lload C 0 dX7_reckonBehind_140 rfl rfl ?_
                          refine g_aload_n C 4 dX7_reckonBehind_142 rfl rfl rfl ?_
                          refine gf_7_23 C (hOl.1) (v := .ref (a + 18)) rfl dX7_reckonBehind_143 rfl ?_
                          refine g_iload_n C 3 dX7_reckonBehind_146 rfl rfl rfl ?_
                          refine g_iconst C (v := 1) dX7_reckonBehind_147 (by decide) rfl ?_
                          refine g_iadd C dX7_reckonBehind_148 rfl ?_
                          refine g_topi (y := nI (k + 1)) (nI_add _ _) ?_
                          refine g_aaldJJ C (hM.1) (j := (k + 1)) rfl (by omega) (by decide) (gridF_at (by omega)) dX7_reckonBehind_149 rfl ?_
                          refine g_iload_n C 1 dX7_reckonBehind_150 rfl rfl rfl ?_
                          refine g_lald' C (hM.2 ((k + 1)) (by omega)) (j := w) rfl (by omega) (by decide) dX7_reckonBehind_151 rfl ?_
                          refine g_lmul C dX7_reckonBehind_152 rfl ?_
                          refine g_mmax C hw_7_85 ⟨Nat.le_of_ble_eq_true rfl, Nat.le_of_ble_eq_true rfl⟩ ⟨Nat.zero_le _, Nat.zero_le _⟩ dX7_reckonBehind_153 (v := mx64 (M4 (k) (v)) ((F_step tn sl rd ((k + 1)) (v) (w)) * (M4 ((k + 1)) (w)))) rfl (hv := rfl) ?_
                          refine g_last' C (hM.2 (k) (by omega)) (j := v) rfl (by omega) (by decide) dX7_reckonBehind_156 (pc' := 157) rfl (fun h14 e15 o16 => ?_)
                          have hM : GrJ D h14 (a + 18) (va_up (M4) (k) (vp_updL (M4 (k)) (v) (mx64 (M4 (k) (v)) ((F_step tn sl rd ((k + 1)) (v) (w)) * (M4 ((k + 1)) (w)))))) := hM.put (by omega) e15 o16
                          have hOl : OlAt D h14 (a) (s) (rd) (dn) (w0) := ⟨(o16 _ (by omega)).trans hOl.1, (o16 _ (by omega)).trans hOl.2⟩
                          have hSt : StAt D h14 (s) (tn) (nI (e)) (sl) := ⟨(o16 _ (by omega)).trans hSt.1, (o16 _ (by omega)).trans hSt.2⟩
                          have hB : GrJ D h14 (a + 10) (va_up (B4) (k) (vp_updL (B4 (k)) (v) ((B4 (k) (v)) + ((F_step tn sl rd ((k + 1)) (v) (w)) * (B4 ((k + 1)) (w)))))) := ⟨(o16 _ (by omega)).trans hB.1, fun i hi => (o16 _ (by omega)).trans (hB.2 i hi)⟩
                          have hP : GrI D h14 (a + 26) (P4) := ⟨(o16 _ (by omega)).trans hP.1, fun i hi => (o16 _ (by omega)).trans (hP.2 i hi)⟩
                          have hO : ∀ q, (q < a + 10 ∨ a + 34 ≤ q) → h14 q = h q := fun q hq => (o16 q (by omega)).trans (hO q hq)
                          refine g_aload_n C 4 dX7_reckonBehind_157 rfl rfl rfl ?_
                          refine gf_7_28 C (hOl.1) (v := .ref (a + 26)) rfl dX7_reckonBehind_158 rfl ?_
                          refine g_iload_n C 3 dX7_reckonBehind_161 rfl rfl rfl ?_
                          refine g_aaldII C (hP.1) (j := k) rfl (by omega) (by decide) (gridF_at (by omega)) dX7_reckonBehind_162 rfl ?_
                          refine g_iload_n C 2 dX7_reckonBehind_163 rfl rfl rfl ?_
                          refine g_dup2 C rfl rfl dX7_reckonBehind_164 rfl ?_
                          refine g_iald' C (hP.2 (k) (by omega)) (j := v) rfl (by omega) (by decide) dX7_reckonBehind_165 rfl ?_
                          refine g_lload C 0 dX7_reckonBehind_166 rfl rfl ?_
                          refine g_lconst C (v := 0) dX7_reckonBehind_168 (by decide) rfl ?_
                          refine g_lcmp C dX7_reckonBehind_169 rfl ?_
                          refine g_if_le C dX7_reckonBehind_170 (tgt := 186) (by decide) (pc' := 173) rfl ?_ ?_
                          · intro c170
                            replace c170 := (lg_cmp_le _ _).mp c170
                            refine g_iconst C (v := 0) dX7_reckonBehind_186 (by decide) rfl ?_
                            refine g_iadd C dX7_reckonBehind_187 rfl ?_
                            refine g_iast' C (hP.2 (k) (by omega)) (j := v) rfl (by omega) (by decide) dX7_reckonBehind_188 (pc' := 189) rfl (fun h17 e18 o19 => ?_)
                            have hP : GrI D h17 (a + 26) (va_up (P4) (k) (upd (P4 (k)) (v) ((P4 (k) (v)) + (0)))) := hP.put (by omega) e18 o19
                            have hOl : OlAt D h17 (a) (s) (rd) (dn) (w0) := ⟨(o19 _ (by omega)).trans hOl.1, (o19 _ (by omega)).trans hOl.2⟩
                            have hSt : StAt D h17 (s) (tn) (nI (e)) (sl) := ⟨(o19 _ (by omega)).trans hSt.1, (o19 _ (by omega)).trans hSt.2⟩
                            have hB : GrJ D h17 (a + 10) (va_up (B4) (k) (vp_updL (B4 (k)) (v) ((B4 (k) (v)) + ((F_step tn sl rd ((k + 1)) (v) (w)) * (B4 ((k + 1)) (w)))))) := ⟨(o19 _ (by omega)).trans hB.1, fun i hi => (o19 _ (by omega)).trans (hB.2 i hi)⟩
                            have hM : GrJ D h17 (a + 18) (va_up (M4) (k) (vp_updL (M4 (k)) (v) (mx64 (M4 (k) (v)) ((F_step tn sl rd ((k + 1)) (v) (w)) * (M4 ((k + 1)) (w)))))) := ⟨(o19 _ (by omega)).trans hM.1, fun i hi => (o19 _ (by omega)).trans (hM.2 i hi)⟩
                            have hO : ∀ q, (q < a + 10 ∨ a + 34 ≤ q) → h17 q = h q := fun q hq => (o19 q (by omega)).trans (hO q hq)
                            refine g_iinc C (v := nI (w + 1)) 1 ([(3, .int (nI (w + 1))), (4, .long (F_step tn sl rd ((k + 1)) (v) (w))), (2, .int (nI (v))), (1, .int (nI (k))), (0, .ref (a))]) dX7_reckonBehind_189 rfl (nI_1 _) (by decide) rfl rfl ?_
                            refine g_goto C dX7_reckonBehind_192 (tgt := 85) (by decide) ?_
                            refine q_lsub [0, 2, 3, 4] (L' := [(3, .int (nI (w + 1))), (2, .int (nI (v))), (1, .int (nI (k))), (0, .ref (a))]) rfl ?_
                            exact ih85 (w + 1) (h17) (va_up (B4) (k) (vp_updL (B4 (k)) (v) ((B4 (k) (v)) + ((F_step tn sl rd ((k + 1)) (v) (w)) * (B4 ((k + 1)) (w)))))) (va_up (M4) (k) (vp_updL (M4 (k)) (v) (mx64 (M4 (k) (v)) ((F_step tn sl rd ((k + 1)) (v) (w)) * (M4 ((k + 1)) (w)))))) (va_up (P4) (k) (upd (P4 (k)) (v) ((P4 (k) (v)) + (0)))) (by omega) (by omega) (hOl) (hSt) (hB) (hM) (hP) (hO) (fun i g1 g2 j g3 => ⟨(g2L_ne (by omega)).trans (hR i g1 g2 j g3).1, (g2L_ne (by omega)).trans (hR i g1 g2 j g3).2.1, (g2I_ne (by omega)).trans (hR i g1 g2 j g3).2.2⟩) (fun j g => ⟨(g2L_ne (by omega)).trans (hV j g).1, (g2L_ne (by omega)).trans (hV j g).2.1, (g2I_ne (by omega)).trans (hV j g).2.2⟩) (g2L_at.trans (by rw [hb, (hR (k + 1) (by omega) (by omega) w (by omega)).1]; rfl)) (g2L_at.trans (by rw [hm, (hR (k + 1) (by omega) (by omega) w (by omega)).2.1]; rfl)) (g2I_at.trans (by rw [hp]; simp only [wyP, if_pos c170]))
                          · intro c170
                            replace c170 := (not_congr (lg_cmp_le _ _)).mp c170
                            refine g_aload_n C 4 dX7_reckonBehind_173 rfl rfl rfl ?_
                            refine gf_7_28 C (hOl.1) (v := .ref (a + 26)) rfl dX7_reckonBehind_174 rfl ?_
                            refine g_iload_n C 3 dX7_reckonBehind_177 rfl rfl rfl ?_
                            refine g_iconst C (v := 1) dX7_reckonBehind_178 (by decide) rfl ?_
                            refine g_iadd C dX7_reckonBehind_179 rfl ?_
                            refine g_topi (y := nI (k + 1)) (nI_add _ _) ?_
                            refine g_aaldII C (hP.1) (j := (k + 1)) rfl (by omega) (by decide) (gridF_at (by omega)) dX7_reckonBehind_180 rfl ?_
                            refine g_iload_n C 1 dX7_reckonBehind_181 rfl rfl rfl ?_
                            refine g_iald' C (hP.2 ((k + 1)) (by omega)) (j := w) rfl (by omega) (by decide) dX7_reckonBehind_182 rfl ?_
                            refine g_goto C dX7_reckonBehind_183 (tgt := 187) (by decide) ?_
                            refine g_iadd C dX7_reckonBehind_187 rfl ?_
                            refine g_iast' C (hP.2 (k) (by omega)) (j := v) rfl (by omega) (by decide) dX7_reckonBehind_188 (pc' := 189) rfl (fun h20 e21 o22 => ?_)
                            have hP : GrI D h20 (a + 26) (va_up (P4) (k) (upd (P4 (k)) (v) ((P4 (k) (v)) + (P4 ((k + 1)) (w))))) := hP.put (by omega) e21 o22
                            have hOl : OlAt D h20 (a) (s) (rd) (dn) (w0) := ⟨(o22 _ (by omega)).trans hOl.1, (o22 _ (by omega)).trans hOl.2⟩
                            have hSt : StAt D h20 (s) (tn) (nI (e)) (sl) := ⟨(o22 _ (by omega)).trans hSt.1, (o22 _ (by omega)).trans hSt.2⟩
                            have hB : GrJ D h20 (a + 10) (va_up (B4) (k) (vp_updL (B4 (k)) (v) ((B4 (k) (v)) + ((F_step tn sl rd ((k + 1)) (v) (w)) * (B4 ((k + 1)) (w)))))) := ⟨(o22 _ (by omega)).trans hB.1, fun i hi => (o22 _ (by omega)).trans (hB.2 i hi)⟩
                            have hM : GrJ D h20 (a + 18) (va_up (M4) (k) (vp_updL (M4 (k)) (v) (mx64 (M4 (k) (v)) ((F_step tn sl rd ((k + 1)) (v) (w)) * (M4 ((k + 1)) (w)))))) := ⟨(o22 _ (by omega)).trans hM.1, fun i hi => (o22 _ (by omega)).trans (hM.2 i hi)⟩
                            have hO : ∀ q, (q < a + 10 ∨ a + 34 ≤ q) → h20 q = h q := fun q hq => (o22 q (by omega)).trans (hO q hq)
                            refine g_iinc C (v := nI (w + 1)) 1 ([(3, .int (nI (w + 1))), (4, .long (F_step tn sl rd ((k + 1)) (v) (w))), (2, .int (nI (v))), (1, .int (nI (k))), (0, .ref (a))]) dX7_reckonBehind_189 rfl (nI_1 _) (by decide) rfl rfl ?_
                            refine g_goto C dX7_reckonBehind_192 (tgt := 85) (by decide) ?_
                            refine q_lsub [0, 2, 3, 4] (L' := [(3, .int (nI (w + 1))), (2, .int (nI (v))), (1, .int (nI (k))), (0, .ref (a))]) rfl ?_
                            exact ih85 (w + 1) (h20) (va_up (B4) (k) (vp_updL (B4 (k)) (v) ((B4 (k) (v)) + ((F_step tn sl rd ((k + 1)) (v) (w)) * (B4 ((k + 1)) (w)))))) (va_up (M4) (k) (vp_updL (M4 (k)) (v) (mx64 (M4 (k) (v)) ((F_step tn sl rd ((k + 1)) (v) (w)) * (M4 ((k + 1)) (w)))))) (va_up (P4) (k) (upd (P4 (k)) (v) ((P4 (k) (v)) + (P4 ((k + 1)) (w))))) (by omega) (by omega) (hOl) (hSt) (hB) (hM) (hP) (hO) (fun i g1 g2 j g3 => ⟨(g2L_ne (by omega)).trans (hR i g1 g2 j g3).1, (g2L_ne (by omega)).trans (hR i g1 g2 j g3).2.1, (g2I_ne (by omega)).trans (hR i g1 g2 j g3).2.2⟩) (fun j g => ⟨(g2L_ne (by omega)).trans (hV j g).1, (g2L_ne (by omega)).trans (hV j g).2.1, (g2I_ne (by omega)).trans (hV j g).2.2⟩) (g2L_at.trans (by rw [hb, (hR (k + 1) (by omega) (by omega) w (by omega)).1]; rfl)) (g2L_at.trans (by rw [hm, (hR (k + 1) (by omega) (by omega) w (by omega)).2.1]; rfl)) (g2I_at.trans (by rw [hp]; simp only [wyP, if_neg c170, (hR (k + 1) (by omega) (by omega) w (by omega)).2.2]))
                    exact loop85 _ (0) (h7) (va_up (B3) (k) (vp_updL (B3 (k)) (v) (0))) (va_up (M3) (k) (vp_updL (M3 (k)) (v) (0))) (va_up (P3) (k) (upd (P3 (k)) (v) (0))) (Nat.lt_succ_self _) (by omega) (hOl) (hSt) (hB) (hM) (hP) (hO) (fun i g1 g2 j g3 => ⟨(g2L_ne (by omega)).trans (hR i g1 g2 j g3).1, (g2L_ne (by omega)).trans (hR i g1 g2 j g3).2.1, (g2I_ne (by omega)).trans (hR i g1 g2 j g3).2.2⟩) (fun j g => ⟨(g2L_ne (by omega)).trans (hV j g).1, (g2L_ne (by omega)).trans (hV j g).2.1, (g2I_ne (by omega)).trans (hV j g).2.2⟩) (g2L_at) (g2L_at) (g2I_at)
              exact loop51 _ (0) (h2) (B2) (M2) (P2) (Nat.lt_succ_self _) (by omega) (hOl) (hSt) (hB) (hM) (hP) (hO) (fun i g1 g2 j g3 => hR i g1 g2 j g3) (fun j g => absurd g (Nat.not_lt_zero _))
        exact loop45 _ (6) (h1) (B1) (M1) (P1) (Nat.lt_succ_self _) (by omega) (hOl) (hSt) (hB) (hM) (hP) (hO) (fun i g1 g2 j g3 => by obtain rfl : i = 6 := (by omega); exact hr j (by omega))
      · intro c4
        replace c4 := (not_congr (nI_leI (a := 3) (b := v) (by omega) (by omega))).mp c4
        refine g_aload_n C 1 dX7_reckonBehind_7 rfl rfl rfl ?_
        refine gf_7_20 C (hOl.1) (v := .ref (a + 10)) rfl dX7_reckonBehind_8 rfl ?_
        refine g_bipush C (v := 6) dX7_reckonBehind_11 (by decide) rfl ?_
        refine g_aaldJJ C (hB.1) (j := 6) rfl (by omega) (by decide) (gridF_at (by omega)) dX7_reckonBehind_13 rfl ?_
        refine g_iload_n C 0 dX7_reckonBehind_14 rfl rfl rfl ?_
        refine g_lconst C (v := 1) dX7_reckonBehind_15 (by decide) rfl ?_
        refine g_last' C (hB.2 (6) (by omega)) (j := v) rfl (by omega) (by decide) dX7_reckonBehind_16 (pc' := 17) rfl (fun h23 e24 o25 => ?_)
        have hB : GrJ D h23 (a + 10) (va_up (B1) (6) (vp_updL (B1 (6)) (v) (1))) := hB.put (by omega) e24 o25
        have hOl : OlAt D h23 (a) (s) (rd) (dn) (w0) := ⟨(o25 _ (by omega)).trans hOl.1, (o25 _ (by omega)).trans hOl.2⟩
        have hSt : StAt D h23 (s) (tn) (nI (e)) (sl) := ⟨(o25 _ (by omega)).trans hSt.1, (o25 _ (by omega)).trans hSt.2⟩
        have hM : GrJ D h23 (a + 18) (M1) := ⟨(o25 _ (by omega)).trans hM.1, fun i hi => (o25 _ (by omega)).trans (hM.2 i hi)⟩
        have hP : GrI D h23 (a + 26) (P1) := ⟨(o25 _ (by omega)).trans hP.1, fun i hi => (o25 _ (by omega)).trans (hP.2 i hi)⟩
        have hO : ∀ q, (q < a + 10 ∨ a + 34 ≤ q) → h23 q = h q := fun q hq => (o25 q (by omega)).trans (hO q hq)
        refine g_aload_n C 1 dX7_reckonBehind_17 rfl rfl rfl ?_
        refine gf_7_23 C (hOl.1) (v := .ref (a + 18)) rfl dX7_reckonBehind_18 rfl ?_
        refine g_bipush C (v := 6) dX7_reckonBehind_21 (by decide) rfl ?_
        refine g_aaldJJ C (hM.1) (j := 6) rfl (by omega) (by decide) (gridF_at (by omega)) dX7_reckonBehind_23 rfl ?_
        refine g_iload_n C 0 dX7_reckonBehind_24 rfl rfl rfl ?_
        refine g_lconst C (v := 1) dX7_reckonBehind_25 (by decide) rfl ?_
        refine g_last' C (hM.2 (6) (by omega)) (j := v) rfl (by omega) (by decide) dX7_reckonBehind_26 (pc' := 27) rfl (fun h26 e27 o28 => ?_)
        have hM : GrJ D h26 (a + 18) (va_up (M1) (6) (vp_updL (M1 (6)) (v) (1))) := hM.put (by omega) e27 o28
        have hOl : OlAt D h26 (a) (s) (rd) (dn) (w0) := ⟨(o28 _ (by omega)).trans hOl.1, (o28 _ (by omega)).trans hOl.2⟩
        have hSt : StAt D h26 (s) (tn) (nI (e)) (sl) := ⟨(o28 _ (by omega)).trans hSt.1, (o28 _ (by omega)).trans hSt.2⟩
        have hB : GrJ D h26 (a + 10) (va_up (B1) (6) (vp_updL (B1 (6)) (v) (1))) := ⟨(o28 _ (by omega)).trans hB.1, fun i hi => (o28 _ (by omega)).trans (hB.2 i hi)⟩
        have hP : GrI D h26 (a + 26) (P1) := ⟨(o28 _ (by omega)).trans hP.1, fun i hi => (o28 _ (by omega)).trans (hP.2 i hi)⟩
        have hO : ∀ q, (q < a + 10 ∨ a + 34 ≤ q) → h26 q = h q := fun q hq => (o28 q (by omega)).trans (hO q hq)
        refine g_aload_n C 1 dX7_reckonBehind_27 rfl rfl rfl ?_
        refine gf_7_28 C (hOl.1) (v := .ref (a + 26)) rfl dX7_reckonBehind_28 rfl ?_
        refine g_bipush C (v := 6) dX7_reckonBehind_31 (by decide) rfl ?_
        refine g_aaldII C (hP.1) (j := 6) rfl (by omega) (by decide) (gridF_at (by omega)) dX7_reckonBehind_33 rfl ?_
        refine g_iload_n C 0 dX7_reckonBehind_34 rfl rfl rfl ?_
        refine g_iconst C (v := 1) dX7_reckonBehind_35 (by decide) rfl ?_
        refine g_iast' C (hP.2 (6) (by omega)) (j := v) rfl (by omega) (by decide) dX7_reckonBehind_36 (pc' := 37) rfl (fun h29 e30 o31 => ?_)
        have hP : GrI D h29 (a + 26) (va_up (P1) (6) (upd (P1 (6)) (v) (1))) := hP.put (by omega) e30 o31
        have hOl : OlAt D h29 (a) (s) (rd) (dn) (w0) := ⟨(o31 _ (by omega)).trans hOl.1, (o31 _ (by omega)).trans hOl.2⟩
        have hSt : StAt D h29 (s) (tn) (nI (e)) (sl) := ⟨(o31 _ (by omega)).trans hSt.1, (o31 _ (by omega)).trans hSt.2⟩
        have hB : GrJ D h29 (a + 10) (va_up (B1) (6) (vp_updL (B1 (6)) (v) (1))) := ⟨(o31 _ (by omega)).trans hB.1, fun i hi => (o31 _ (by omega)).trans (hB.2 i hi)⟩
        have hM : GrJ D h29 (a + 18) (va_up (M1) (6) (vp_updL (M1 (6)) (v) (1))) := ⟨(o31 _ (by omega)).trans hM.1, fun i hi => (o31 _ (by omega)).trans (hM.2 i hi)⟩
        have hO : ∀ q, (q < a + 10 ∨ a + 34 ≤ q) → h29 q = h q := fun q hq => (o31 q (by omega)).trans (hO q hq)
        refine g_iinc C (v := nI (v + 1)) 0 ([(1, .int (nI (v + 1))), (0, .ref (a))]) dX7_reckonBehind_37 rfl (nI_1 _) (by decide) rfl rfl ?_
        refine g_goto C dX7_reckonBehind_40 (tgt := 2) (by decide) ?_
        exact ih2 (v + 1) (h29) (va_up (B1) (6) (vp_updL (B1 (6)) (v) (1))) (va_up (M1) (6) (vp_updL (M1 (6)) (v) (1))) (va_up (P1) (6) (upd (P1 (6)) (v) (1))) (by omega) (by omega) (hOl) (hSt) (hB) (hM) (hP) (hO) (fun j g => by by_cases e1 : j = v; (subst e1; exact ⟨g2L_at, g2L_at, g2I_at⟩); exact ⟨(g2L_ne (by omega)).trans (hr j (by omega)).1, (g2L_ne (by omega)).trans (hr j (by omega)).2.1, (g2I_ne (by omega)).trans (hr j (by omega)).2.2⟩)
  exact loop2 _ (0) (h) (B) (M) (P) (Nat.lt_succ_self _) (by omega) (hOl) (hSt) (hB) (hM) (hP) (hO) (fun j g => absurd g (Nat.not_lt_zero _))
theorem row_un (stp : Nat → Nat → Nat → Int64) (wn : Nat) {k v : Nat} (hk : 1 ≤ k) : unD stp wn k v = smP (fun w => unD stp wn (k - 1) w * stp k w v) 3 := by
  obtain ⟨d, rfl⟩ : ∃ d, k = d + 1 := ⟨k - 1, by omega⟩
  rfl
set_option maxHeartbeats 4000000 in
set_option maxRecDepth 100000 in
theorem k_X7_reckonUntil (l : Launch) (D : va_G) (b z : Nat) {h : qH} {a s : Nat} {rd : Nat → Int32} {dn : Int32} {wn : Nat} (hwn : wn < 3) (hOl : OlAt D h a s rd dn (nI wn)) {tn : Nat → Int32} {e : Nat} {sl : Int32} (he : e < 10) (hSt : StAt D h s tn (nI e) sl) {U : Nat → Nat → Int64} (hU : GrJ D h (a + 2) U) (hds : s + 2 ≤ a ∨ a + 34 ≤ s) : qMv l D b yX7_reckonUntil cX7_reckonUntil 4 2 46 [.ref (a)] h z (fun h' => (∃ U', GrJ D h' (a + 2) U' ∧ ∀ i, i ≤ 6 → ∀ j, j < 3 → U' i j = unD (F_step tn sl rd) wn i j) ∧ ∀ q, (q < a + 2 ∨ a + 10 ≤ q) → h' q = h q) := by
  refine q_v (L := [(0, .ref (a))]) (own := RX7) (by decide) rfl (Nat.le_of_ble_eq_true rfl) rfl ?_
  intro X C ret
  have hO : ∀ q, (q < a + 2 ∨ a + 10 ≤ q) → h q = h q := fun _ _ => rfl
  refine g_iconst C (v := 0) dX7_reckonUntil_0 (by decide) rfl ?_
  refine g_istore_n C ([(1, .int (0)), (0, .ref (a))]) dX7_reckonUntil_1 rfl (by decide) rfl rfl ?_
  have loop2 : ∀ (N : Nat) (v : Nat) (h1 : qH) (U1 : Nat → Nat → Int64), 3 - v < N → (v ≤ 3) → (OlAt D h1 a s rd dn (nI wn)) → (StAt D h1 s tn (nI e) sl) → (GrJ D h1 (a + 2) U1) → (∀ q, (q < a + 2 ∨ a + 10 ≤ q) → h1 q = h q) → (∀ j, j < v → U1 0 j = unD (F_step tn sl rd) wn 0 j) → qG X 0 0 z h1 2 [(1, .int (nI (v))), (0, .ref (a))] [] := by
    intro N
    induction N with
    | zero => intro v h1 U1 hm; exact absurd hm (Nat.not_lt_zero _)
    | succ N ih2 =>
      intro v h1 U1 hm hv hOl hSt hU hO hr
      refine g_iload_n C 0 dX7_reckonUntil_2 rfl rfl rfl ?_
      refine g_iconst C (v := 3) dX7_reckonUntil_3 (by decide) rfl ?_
      refine g_icmp_ge C dX7_reckonUntil_4 (tgt := 34) (by decide) (pc' := 7) rfl ?_ ?_
      · intro c4
        replace c4 := (nI_leI (a := 3) (b := v) (by omega) (by omega)).mp c4
        refine g_iconst C (v := 1) dX7_reckonUntil_34 (by decide) rfl ?_
        refine g_istore_n C ([(1, .int (1)), (0, .ref (a))]) dX7_reckonUntil_35 rfl (by decide) rfl rfl ?_
        have loop36 : ∀ (N : Nat) (k : Nat) (h2 : qH) (U2 : Nat → Nat → Int64), 7 - k < N → (1 ≤ k ∧ k ≤ 7) → (OlAt D h2 a s rd dn (nI wn)) → (StAt D h2 s tn (nI e) sl) → (GrJ D h2 (a + 2) U2) → (∀ q, (q < a + 2 ∨ a + 10 ≤ q) → h2 q = h q) → (∀ i, i < k → ∀ j, j < 3 → U2 i j = unD (F_step tn sl rd) wn i j) → qG X 0 0 z h2 36 [(1, .int (nI (k))), (0, .ref (a))] [] := by
          intro N
          induction N with
          | zero => intro k h2 U2 hm; exact absurd hm (Nat.not_lt_zero _)
          | succ N ih36 =>
            intro k h2 U2 hm hk hOl hSt hU hO hR
            refine g_iload_n C 0 dX7_reckonUntil_36 rfl rfl rfl ?_
            refine g_bipush C (v := 6) dX7_reckonUntil_37 (by decide) rfl ?_
            refine g_icmp_gt C dX7_reckonUntil_39 (tgt := 112) (by decide) (pc' := 42) rfl ?_ ?_
            · intro c39
              replace c39 := (nI_ltI (a := 6) (b := k) (by omega) (by omega)).mp c39
              exact ret _ _ _ dX7_reckonUntil_112 (⟨⟨_, hU, fun i g2 j g3 => hR i (by omega) j g3⟩, hO⟩)
            · intro c39
              replace c39 := (not_congr (nI_ltI (a := 6) (b := k) (by omega) (by omega))).mp c39
              refine g_iconst C (v := 0) dX7_reckonUntil_42 (by decide) rfl ?_
              refine g_istore_n C ([(2, .int (0)), (1, .int (nI (k))), (0, .ref (a))]) dX7_reckonUntil_43 rfl (by decide) rfl rfl ?_
              have loop44 : ∀ (N : Nat) (v : Nat) (h3 : qH) (U3 : Nat → Nat → Int64), 3 - v < N → (v ≤ 3) → (OlAt D h3 a s rd dn (nI wn)) → (StAt D h3 s tn (nI e) sl) → (GrJ D h3 (a + 2) U3) → (∀ q, (q < a + 2 ∨ a + 10 ≤ q) → h3 q = h q) → (∀ i, i < k → ∀ j, j < 3 → U3 i j = unD (F_step tn sl rd) wn i j) → (∀ j, j < v → U3 k j = unD (F_step tn sl rd) wn k j) → qG X 0 0 z h3 44 [(2, .int (nI (v))), (1, .int (nI (k))), (0, .ref (a))] [] := by
                intro N
                induction N with
                | zero => intro v h3 U3 hm; exact absurd hm (Nat.not_lt_zero _)
                | succ N ih44 =>
                  intro v h3 U3 hm hv hOl hSt hU hO hR hV
                  refine g_iload_n C 0 dX7_reckonUntil_44 rfl rfl rfl ?_
                  refine g_iconst C (v := 3) dX7_reckonUntil_45 (by decide) rfl ?_
                  refine g_icmp_ge C dX7_reckonUntil_46 (tgt := 106) (by decide) (pc' := 49) rfl ?_ ?_
                  · intro c46
                    replace c46 := (nI_leI (a := 3) (b := v) (by omega) (by omega)).mp c46
                    refine g_iinc C (v := nI (k + 1)) 1 ([(1, .int (nI (k + 1))), (2, .int (nI (v))), (0, .ref (a))]) dX7_reckonUntil_106 rfl (nI_1 _) (by decide) rfl rfl ?_
                    refine g_goto C dX7_reckonUntil_109 (tgt := 36) (by decide) ?_
                    refine q_lsub [0, 2] (L' := [(1, .int (nI (k + 1))), (0, .ref (a))]) rfl ?_
                    exact ih36 (k + 1) (h3) (U3) (by omega) (by omega) (hOl) (hSt) (hU) (hO) (fun i g1 j g3 => by by_cases e1 : i = k; (subst e1; exact hV j (by omega)); exact hR i (by omega) j g3)
                  · intro c46
                    replace c46 := (not_congr (nI_leI (a := 3) (b := v) (by omega) (by omega))).mp c46
                    refine g_aload_n C 2 dX7_reckonUntil_49 rfl rfl rfl ?_
                    refine gf_7_17 C (hOl.1) (v := .ref (a + 2)) rfl dX7_reckonUntil_50 rfl ?_
                    refine g_iload_n C 1 dX7_reckonUntil_53 rfl rfl rfl ?_
                    refine g_aaldJJ C (hU.1) (j := k) rfl (by omega) (by decide) (gridF_at (by omega)) dX7_reckonUntil_54 rfl ?_
                    refine g_iload_n C 0 dX7_reckonUntil_55 rfl rfl rfl ?_
                    refine g_lconst C (v := 0) dX7_reckonUntil_56 (by decide) rfl ?_
                    refine g_last' C (hU.2 (k) (by omega)) (j := v) rfl (by omega) (by decide) dX7_reckonUntil_57 (pc' := 58) rfl (fun h1 e2 o3 => ?_)
                    have hU : GrJ D h1 (a + 2) (va_up (U3) (k) (vp_updL (U3 (k)) (v) (0))) := hU.put (by omega) e2 o3
                    have hOl : OlAt D h1 (a) (s) (rd) (dn) (nI (wn)) := ⟨(o3 _ (by omega)).trans hOl.1, (o3 _ (by omega)).trans hOl.2⟩
                    have hSt : StAt D h1 (s) (tn) (nI (e)) (sl) := ⟨(o3 _ (by omega)).trans hSt.1, (o3 _ (by omega)).trans hSt.2⟩
                    have hO : ∀ q, (q < a + 2 ∨ a + 10 ≤ q) → h1 q = h q := fun q hq => (o3 q (by omega)).trans (hO q hq)
                    refine g_iconst C (v := 0) dX7_reckonUntil_58 (by decide) rfl ?_
                    refine g_istore_n C ([(3, .int (0)), (2, .int (nI (v))), (1, .int (nI (k))), (0, .ref (a))]) dX7_reckonUntil_59 rfl (by decide) rfl rfl ?_
                    have loop60 : ∀ (N : Nat) (w : Nat) (h4 : qH) (U4 : Nat → Nat → Int64), 3 - w < N → (w ≤ 3) → (OlAt D h4 a s rd dn (nI wn)) → (StAt D h4 s tn (nI e) sl) → (GrJ D h4 (a + 2) U4) → (∀ q, (q < a + 2 ∨ a + 10 ≤ q) → h4 q = h q) → (∀ i, i < k → ∀ j, j < 3 → U4 i j = unD (F_step tn sl rd) wn i j) → (∀ j, j < v → U4 k j = unD (F_step tn sl rd) wn k j) → (U4 k v = smP (fun w => unD (F_step tn sl rd) wn (k - 1) w * (F_step tn sl rd) k w v) w) → qG X 0 0 z h4 60 [(3, .int (nI (w))), (2, .int (nI (v))), (1, .int (nI (k))), (0, .ref (a))] [] := by
                      intro N
                      induction N with
                      | zero => intro w h4 U4 hm; exact absurd hm (Nat.not_lt_zero _)
                      | succ N ih60 =>
                        intro w h4 U4 hm hw hOl hSt hU hO hR hV hb
                        refine g_iload_n C 0 dX7_reckonUntil_60 rfl rfl rfl ?_
                        refine g_iconst C (v := 3) dX7_reckonUntil_61 (by decide) rfl ?_
                        refine g_icmp_ge C dX7_reckonUntil_62 (tgt := 100) (by decide) (pc' := 65) rfl ?_ ?_
                        · intro c62
                          replace c62 := (nI_leI (a := 3) (b := w) (by omega) (by omega)).mp c62
                          refine g_iinc C (v := nI (v + 1)) 1 ([(2, .int (nI (v + 1))), (3, .int (nI (w))), (1, .int (nI (k))), (0, .ref (a))]) dX7_reckonUntil_100 rfl (nI_1 _) (by decide) rfl rfl ?_
                          refine g_goto C dX7_reckonUntil_103 (tgt := 44) (by decide) ?_
                          refine q_lsub [0, 2, 3] (L' := [(2, .int (nI (v + 1))), (1, .int (nI (k))), (0, .ref (a))]) rfl ?_
                          exact ih44 (v + 1) (h4) (U4) (by omega) (by omega) (hOl) (hSt) (hU) (hO) (hR) (fun j g => by by_cases e1 : j = v; (subst e1; obtain rfl : w = 3 := (by omega); exact hb.trans (row_un _ _ (by omega)).symm); exact hV j (by omega))
                        · intro c62
                          replace c62 := (not_congr (nI_leI (a := 3) (b := w) (by omega) (by omega))).mp c62
                          refine g_aload_n C 3 dX7_reckonUntil_65 rfl rfl rfl ?_
                          refine gf_7_17 C (hOl.1) (v := .ref (a + 2)) rfl dX7_reckonUntil_66 rfl ?_
                          refine g_iload_n C 2 dX7_reckonUntil_69 rfl rfl rfl ?_
                          refine g_aaldJJ C (hU.1) (j := k) rfl (by omega) (by decide) (gridF_at (by omega)) dX7_reckonUntil_70 rfl ?_
                          refine g_iload_n C 1 dX7_reckonUntil_71 rfl rfl rfl ?_
                          refine g_dup2 C rfl rfl dX7_reckonUntil_72 rfl ?_
                          refine g_lald' C (hU.2 (k) (by omega)) (j := v) rfl (by omega) (by decide) dX7_reckonUntil_73 rfl ?_
                          refine g_aload_n C 3 dX7_reckonUntil_74 rfl rfl rfl ?_
                          refine gf_7_17 C (hOl.1) (v := .ref (a + 2)) rfl dX7_reckonUntil_75 rfl ?_
                          refine g_iload_n C 2 dX7_reckonUntil_78 rfl rfl rfl ?_
                          refine g_iconst C (v := 1) dX7_reckonUntil_79 (by decide) rfl ?_
                          refine g_isub C dX7_reckonUntil_80 rfl ?_
                          refine g_topi (y := nI (k - 1)) (nI_sub' (b := 1) (by omega)) ?_
                          refine g_aaldJJ C (hU.1) (j := k - 1) rfl (by omega) (by decide) (gridF_at (by omega)) dX7_reckonUntil_81 rfl ?_
                          refine g_iload_n C 0 dX7_reckonUntil_82 rfl rfl rfl ?_
                          refine g_lald' C (hU.2 (k - 1) (by omega)) (j := w) rfl (by omega) (by decide) dX7_reckonUntil_83 rfl ?_
                          refine g_aload_n C 3 dX7_reckonUntil_84 rfl rfl rfl ?_
                          refine g_iload_n C 2 dX7_reckonUntil_85 rfl rfl rfl ?_
                          refine g_iload_n C 0 dX7_reckonUntil_86 rfl rfl rfl ?_
                          refine g_iload_n C 1 dX7_reckonUntil_87 rfl rfl rfl ?_
                          refine g_callVl C (As := [.int (nI (k)), .int (nI (w)), .int (nI (v))]) (q := (RX7, TX7, 8)) (k_X7_stepOdds l D b z hOl he hSt (k := k) (v := w) (w := v) (by omega) (by omega) (by omega)) hw_7_65 (hOl.1) rfl (by decide) rfl rfl (Nat.le_of_ble_eq_true rfl) ⟨Nat.zero_le _, Nat.zero_le _⟩ dX7_reckonUntil_88 (pc' := 91) rfl ?_
                          rintro r4 h9 ⟨er, e9⟩
                          subst h9; subst er
                          refine g_lmul C dX7_reckonUntil_91 rfl ?_
                          refine g_ladd C dX7_reckonUntil_92 rfl ?_
                          refine g_last' C (hU.2 (k) (by omega)) (j := v) rfl (by omega) (by decide) dX7_reckonUntil_93 (pc' := 94) rfl (fun h5 e6 o7 => ?_)
                          have hU : GrJ D h5 (a + 2) (va_up (U4) (k) (vp_updL (U4 (k)) (v) ((U4 (k) (v)) + ((U4 (k - 1) (w)) * (F_step tn sl rd (k) (w) (v)))))) := hU.put (by omega) e6 o7
                          have hOl : OlAt D h5 (a) (s) (rd) (dn) (nI (wn)) := ⟨(o7 _ (by omega)).trans hOl.1, (o7 _ (by omega)).trans hOl.2⟩
                          have hSt : StAt D h5 (s) (tn) (nI (e)) (sl) := ⟨(o7 _ (by omega)).trans hSt.1, (o7 _ (by omega)).trans hSt.2⟩
                          have hO : ∀ q, (q < a + 2 ∨ a + 10 ≤ q) → h5 q = h q := fun q hq => (o7 q (by omega)).trans (hO q hq)
                          refine g_iinc C (v := nI (w + 1)) 0 ([(3, .int (nI (w + 1))), (2, .int (nI (v))), (1, .int (nI (k))), (0, .ref (a))]) dX7_reckonUntil_94 rfl (nI_1 _) (by decide) rfl rfl ?_
                          refine g_goto C dX7_reckonUntil_97 (tgt := 60) (by decide) ?_
                          exact ih60 (w + 1) (h5) (va_up (U4) (k) (vp_updL (U4 (k)) (v) ((U4 (k) (v)) + ((U4 (k - 1) (w)) * (F_step tn sl rd (k) (w) (v)))))) (by omega) (by omega) (hOl) (hSt) (hU) (hO) (fun i g1 j g3 => (g2L_ne (by omega)).trans (hR i g1 j g3)) (fun j g => (g2L_ne (by omega)).trans (hV j g)) (g2L_at.trans (by rw [hb, hR (k - 1) (by omega) w (by omega)]; rfl))
                    exact loop60 _ (0) (h1) (va_up (U3) (k) (vp_updL (U3 (k)) (v) (0))) (Nat.lt_succ_self _) (by omega) (hOl) (hSt) (hU) (hO) (fun i g1 j g3 => (g2L_ne (by omega)).trans (hR i g1 j g3)) (fun j g => (g2L_ne (by omega)).trans (hV j g)) (g2L_at)
              exact loop44 _ (0) (h2) (U2) (Nat.lt_succ_self _) (by omega) (hOl) (hSt) (hU) (hO) (hR) (fun j g => absurd g (Nat.not_lt_zero _))
        exact loop36 _ (1) (h1) (U1) (Nat.lt_succ_self _) (by omega) (hOl) (hSt) (hU) (hO) (fun i g1 j g3 => by obtain rfl : i = 0 := (by omega); exact hr j (by omega))
      · intro c4
        replace c4 := (not_congr (nI_leI (a := 3) (b := v) (by omega) (by omega))).mp c4
        refine g_aload_n C 1 dX7_reckonUntil_7 rfl rfl rfl ?_
        refine gf_7_17 C (hOl.1) (v := .ref (a + 2)) rfl dX7_reckonUntil_8 rfl ?_
        refine g_iconst C (v := 0) dX7_reckonUntil_11 (by decide) rfl ?_
        refine g_aaldJJ C (hU.1) (j := 0) rfl (by omega) (by decide) (gridF_at (by omega)) dX7_reckonUntil_12 rfl ?_
        refine g_iload_n C 0 dX7_reckonUntil_13 rfl rfl rfl ?_
        refine g_iload_n C 0 dX7_reckonUntil_14 rfl rfl rfl ?_
        refine g_aload_n C 1 dX7_reckonUntil_15 rfl rfl rfl ?_
        refine gf_7_39 C (hOl.1) (v := .int (nI (wn))) rfl dX7_reckonUntil_16 rfl ?_
        refine g_icmp_ne C dX7_reckonUntil_19 (tgt := 26) (by decide) (pc' := 22) rfl ?_ ?_
        · intro c19
          replace c19 := (not_congr (nI_eq (a := v) (b := wn) (by omega) (by omega))).mp c19
          refine g_lconst C (v := 0) dX7_reckonUntil_26 (by decide) rfl ?_
          refine g_last' C (hU.2 (0) (by omega)) (j := v) rfl (by omega) (by decide) dX7_reckonUntil_27 (pc' := 28) rfl (fun h8 e9 o10 => ?_)
          have hU : GrJ D h8 (a + 2) (va_up (U1) (0) (vp_updL (U1 (0)) (v) (0))) := hU.put (by omega) e9 o10
          have hOl : OlAt D h8 (a) (s) (rd) (dn) (nI (wn)) := ⟨(o10 _ (by omega)).trans hOl.1, (o10 _ (by omega)).trans hOl.2⟩
          have hSt : StAt D h8 (s) (tn) (nI (e)) (sl) := ⟨(o10 _ (by omega)).trans hSt.1, (o10 _ (by omega)).trans hSt.2⟩
          have hO : ∀ q, (q < a + 2 ∨ a + 10 ≤ q) → h8 q = h q := fun q hq => (o10 q (by omega)).trans (hO q hq)
          refine g_iinc C (v := nI (v + 1)) 0 ([(1, .int (nI (v + 1))), (0, .ref (a))]) dX7_reckonUntil_28 rfl (nI_1 _) (by decide) rfl rfl ?_
          refine g_goto C dX7_reckonUntil_31 (tgt := 2) (by decide) ?_
          exact ih2 (v + 1) (h8) (va_up (U1) (0) (vp_updL (U1 (0)) (v) (0))) (by omega) (by omega) (hOl) (hSt) (hU) (hO) (fun j g => by by_cases e1 : j = v; (subst e1; exact g2L_at.trans (by simp only [unD, if_neg c19])); exact (g2L_ne (by omega)).trans (hr j (by omega)))
        · intro c19
          replace c19 := (nI_eq (a := v) (b := wn) (by omega) (by omega)).mp c19
          refine g_lconst C (v := 1) dX7_reckonUntil_22 (by decide) rfl ?_
          refine g_goto C dX7_reckonUntil_23 (tgt := 27) (by decide) ?_
          refine g_last' C (hU.2 (0) (by omega)) (j := v) rfl (by omega) (by decide) dX7_reckonUntil_27 (pc' := 28) rfl (fun h11 e12 o13 => ?_)
          have hU : GrJ D h11 (a + 2) (va_up (U1) (0) (vp_updL (U1 (0)) (v) (1))) := hU.put (by omega) e12 o13
          have hOl : OlAt D h11 (a) (s) (rd) (dn) (nI (wn)) := ⟨(o13 _ (by omega)).trans hOl.1, (o13 _ (by omega)).trans hOl.2⟩
          have hSt : StAt D h11 (s) (tn) (nI (e)) (sl) := ⟨(o13 _ (by omega)).trans hSt.1, (o13 _ (by omega)).trans hSt.2⟩
          have hO : ∀ q, (q < a + 2 ∨ a + 10 ≤ q) → h11 q = h q := fun q hq => (o13 q (by omega)).trans (hO q hq)
          refine g_iinc C (v := nI (v + 1)) 0 ([(1, .int (nI (v + 1))), (0, .ref (a))]) dX7_reckonUntil_28 rfl (nI_1 _) (by decide) rfl rfl ?_
          refine g_goto C dX7_reckonUntil_31 (tgt := 2) (by decide) ?_
          exact ih2 (v + 1) (h11) (va_up (U1) (0) (vp_updL (U1 (0)) (v) (1))) (by omega) (by omega) (hOl) (hSt) (hU) (hO) (fun j g => by by_cases e1 : j = v; (subst e1; exact g2L_at.trans (by simp only [unD, if_pos c19])); exact (g2L_ne (by omega)).trans (hr j (by omega)))
  exact loop2 _ (0) (h) (U) (Nat.lt_succ_self _) (by omega) (hOl) (hSt) (hU) (hO) (fun j g => absurd g (Nat.not_lt_zero _))
def Ol4 (D : va_G) (h : qH) (a : Nat) (U B M : Nat → Nat → Int64) (P : Nat → Nat → Int32) : Prop := GrJ D h (a + 2) U ∧ GrJ D h (a + 10) B ∧ GrJ D h (a + 18) M ∧ GrI D h (a + 26) P
def TabOK (stp : Nat → Nat → Nat → Int64) (wn : Nat) (U B M : Nat → Nat → Int64) (P : Nat → Nat → Int32) : Prop := (∀ i, i ≤ 6 → ∀ j, j < 3 → RowOK stp B M P i j) ∧ ∀ i, i ≤ 6 → ∀ j, j < 3 → U i j = unD stp wn i j
def OlOK (D : va_G) (h : qH) (a s : Nat) (tn : Nat → Int32) (sl : Int32) (rd : Nat → Int32) (dn : Int32) (wn : Nat) : Prop := OlAt D h a s rd dn (nI wn) ∧ ∃ U B M P, Ol4 D h a U B M P ∧ TabOK (F_step tn sl rd) wn U B M P
def OlAny (D : va_G) (h : qH) (a s : Nat) (rd : Nat → Int32) (dn w : Int32) : Prop := OlAt D h a s rd dn w ∧ ∃ U B M P, Ol4 D h a U B M P
theorem OlOK.any {D : va_G} {h : qH} {a s : Nat} {tn : Nat → Int32} {sl : Int32} {rd : Nat → Int32} {dn : Int32} {wn : Nat} (H : OlOK D h a s tn sl rd dn wn) : OlAny D h a s rd dn (nI wn) := ⟨H.1, by obtain ⟨U, B, M, P, g, -⟩ := H.2; exact ⟨U, B, M, P, g⟩⟩
theorem Ol4.fr {D : va_G} {h h1 : qH} {a : Nat} {U B M : Nat → Nat → Int64} {P : Nat → Nat → Int32} (H : Ol4 D h a U B M P) (o : ∀ q, a ≤ q → q < a + 34 → h1 q = h q) : Ol4 D h1 a U B M P := ⟨H.1.fr (fun q g1 g2 => o q (by omega) (by omega)), H.2.1.fr (fun q g1 g2 => o q (by omega) (by omega)), H.2.2.1.fr (fun q g1 g2 => o q (by omega) (by omega)), H.2.2.2.fr (fun q g1 g2 => o q (by omega) (by omega))⟩
theorem OlOK.fr {D : va_G} {h h1 : qH} {a s : Nat} {tn : Nat → Int32} {sl : Int32} {rd : Nat → Int32} {dn : Int32} {wn : Nat} (H : OlOK D h a s tn sl rd dn wn) (o : ∀ q, a ≤ q → q < a + 34 → h1 q = h q) : OlOK D h1 a s tn sl rd dn wn := ⟨H.1.fr (fun q g1 g2 => o q (by omega) (by omega)), by obtain ⟨U, B, M, P, g, g2⟩ := H.2; exact ⟨U, B, M, P, g.fr o, g2⟩⟩
theorem OlAny.fr {D : va_G} {h h1 : qH} {a s : Nat} {rd : Nat → Int32} {dn w : Int32} (H : OlAny D h a s rd dn w) (o : ∀ q, a ≤ q → q < a + 34 → h1 q = h q) : OlAny D h1 a s rd dn w := ⟨H.1.fr (fun q g1 g2 => o q (by omega) (by omega)), by obtain ⟨U, B, M, P, g⟩ := H.2; exact ⟨U, B, M, P, g.fr o⟩⟩
set_option maxHeartbeats 4000000 in
set_option maxRecDepth 100000 in
theorem k_X7_reckon (l : Launch) (D : va_G) (b z : Nat) {h : qH} {a s : Nat} {rd : Nat → Int32} {dn : Int32} {wn : Nat} (hwn : wn < 3) (hOl : OlAt D h a s rd dn (nI wn)) {tn : Nat → Int32} {e : Nat} {sl : Int32} (he : e < 10) (hSt : StAt D h s tn (nI e) sl) {U B M : Nat → Nat → Int64} {P : Nat → Nat → Int32} (h4 : Ol4 D h a U B M P) (hds : s + 2 ≤ a ∨ a + 34 ≤ s) : qMv l D b yX7_reckon cX7_reckon 1 3 71 [.ref (a)] h z (fun h' => (∃ U' B' M' P', Ol4 D h' a U' B' M' P' ∧ TabOK (F_step tn sl rd) wn U' B' M' P') ∧ ∀ q, (q < a + 2 ∨ a + 34 ≤ q) → h' q = h q) := by
  refine q_v (L := [(0, .ref (a))]) (own := RX7) (by decide) rfl (Nat.le_of_ble_eq_true rfl) rfl ?_
  intro X C ret
  have hO : ∀ q, (q < a + 2 ∨ a + 34 ≤ q) → h q = h q := fun _ _ => rfl
  obtain ⟨hU, hB, hM, hP⟩ := h4
  refine g_aload_n C 0 dX7_reckon_0 rfl rfl rfl ?_
  refine g_callVv C (As := []) (q := (RX7, TX7, 8)) (k_X7_reckonBehind l D b z hOl he hSt hB hM hP hds) hw_7_79 (hOl.1) rfl (by decide) rfl rfl (Nat.le_of_ble_eq_true rfl) ⟨Nat.zero_le _, Nat.zero_le _⟩ dX7_reckon_1 (pc' := 4) rfl ?_
  rintro h1 ⟨⟨B1, M1, P1, hB, hM, hP, hR⟩, fr2⟩
  have hOl : OlAt D h1 (a) (s) (rd) (dn) (nI (wn)) := hOl.fr (fun q g1 g2 => fr2 q (by omega))
  have hSt : StAt D h1 (s) (tn) (nI (e)) (sl) := hSt.fr (fun q g1 g2 => fr2 q (by omega))
  have hU : GrJ D h1 (a + 2) (U) := hU.fr (fun q g1 g2 => fr2 q (by omega))
  have hO : ∀ q, (q < a + 2 ∨ a + 34 ≤ q) → h1 q = h q := fun q hq => (fr2 q (by omega)).trans (hO q hq)
  refine g_aload_n C 0 dX7_reckon_4 rfl rfl rfl ?_
  refine g_callVv C (As := []) (q := (RX7, TX7, 8)) (k_X7_reckonUntil l D b z hwn hOl he hSt hU hds) hw_7_82 (hOl.1) rfl (by decide) rfl rfl (Nat.le_of_ble_eq_true rfl) ⟨Nat.zero_le _, Nat.zero_le _⟩ dX7_reckon_5 (pc' := 8) rfl ?_
  rintro h3 ⟨⟨U1, hU, hRU⟩, fr4⟩
  have hOl : OlAt D h3 (a) (s) (rd) (dn) (nI (wn)) := hOl.fr (fun q g1 g2 => fr4 q (by omega))
  have hSt : StAt D h3 (s) (tn) (nI (e)) (sl) := hSt.fr (fun q g1 g2 => fr4 q (by omega))
  have hB : GrJ D h3 (a + 10) (B1) := hB.fr (fun q g1 g2 => fr4 q (by omega))
  have hM : GrJ D h3 (a + 18) (M1) := hM.fr (fun q g1 g2 => fr4 q (by omega))
  have hP : GrI D h3 (a + 26) (P1) := hP.fr (fun q g1 g2 => fr4 q (by omega))
  have hO : ∀ q, (q < a + 2 ∨ a + 34 ≤ q) → h3 q = h q := fun q hq => (fr4 q (by omega)).trans (hO q hq)
  exact ret _ _ _ dX7_reckon_8 (⟨⟨_, _, _, _, ⟨hU, hB, hM, hP⟩, hR, hRU⟩, hO⟩)

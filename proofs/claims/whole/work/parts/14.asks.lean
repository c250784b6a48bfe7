/-! the class's own methods: what only asks -/
noncomputable def cIf {α : Type} (P : Prop) (x y : α) : α := @ite _ P (Classical.propDecidable P) x y
theorem cIf_t {α : Type} {P : Prop} {x y : α} (h : P) : cIf P x y = x := by unfold cIf; exact if_pos h
theorem cIf_f {α : Type} {P : Prop} {x y : α} (h : ¬ P) : cIf P x y = y := by unfold cIf; exact if_neg h
theorem nat_of_lt {x : Int32} {M : Nat} (hM : M < 2 ^ 31) (h0 : ¬ x < 0) (h1 : ¬ nI M ≤ x) : ∃ i, i < M ∧ x = nI i := by
  obtain ⟨j, hj, rfl⟩ := nI_of h0
  exact ⟨j, by rw [nI_leI hM hj] at h1; omega, rfl⟩
theorem nIinj {a b : Nat} (ha : a < 2 ^ 31) (hb : b < 2 ^ 31) (h : nI a = nI b) : a = b := (nI_eq ha hb).mp h
theorem InS.e {σ : sg} (h : InS σ) : gN σ 3 < 10 := by have := h.2.1; omega
theorem ClOl.any {D : va_G} {h : qH} {x : Nat} {σ : sg} (H : ClOl D h x σ) : OlAny D h (x + 5) (x + 1) (gB σ 7) (gI σ 5) (nI (gN σ 6)) := H.1
noncomputable def ffC (σ : sg) : Nat := @dite _ (∃ k, ffP (pgG (gB σ 17)) (gN σ 16) k) (Classical.propDecidable _) (fun h => h.choose) (fun _ => 0)
theorem ffP_uniq {G : Nat → Prop} {n k j : Nat} (h1 : ffP G n k) (h2 : ffP G n j) : k = j := by
  rcases Nat.lt_trichotomy k j with g | g | g
  · exact absurd (h2.2.1 k g) (h1.2.2 (by have := h2.1; omega))
  · exact g
  · exact absurd (h1.2.1 j g) (h2.2.2 (by have := h1.1; omega))
theorem ffC_eq {σ : sg} {k : Nat} (h : ffP (pgG (gB σ 17)) (gN σ 16) k) : ffC σ = k := by
  have hx : ∃ k, ffP (pgG (gB σ 17)) (gN σ 16) k := ⟨k, h⟩
  unfold ffC
  rw [dif_pos hx]
  exact ffP_uniq hx.choose_spec h
set_option maxHeartbeats 4000000 in
set_option maxRecDepth 100000 in
theorem k_X11_fault (l : Launch) (D : va_G) (b z : Nat) {h : qH} {x : Nat} {σ : sg} (hC : Cls D h x σ)  : qMi l D b yX11_fault cX11_fault 1 .int 5 108 [.ref (x)] h z (fun r h' => r = nI (ffC σ) ∧ h' = h) := by
  refine q_i (L := [(0, .ref (x))]) (own := RX11) (by decide) rfl (Nat.le_of_ble_eq_true rfl) rfl ?_
  intro X C ret
  obtain ⟨hIn, hGa, hSt, hPg, hOl, hPe, hBk, hTr, hIm⟩ := id hC
  replace hGa : GaAt h x (nI (gN σ 1)) := hGa
  replace hSt : StAt D h (x + 1) (tnS σ) (nI (gN σ 3)) (nI (gN σ 4)) := hSt
  replace hPg : PgAt D h (x + 3) (gB σ 17) (nI (gN σ 16)) := hPg
  replace hBk : BkAt D h (x + 40) (gB σ 14) (gB σ 15) (nI (gN σ 13)) := hBk
  obtain ⟨hI0, hI3, hI03, hI4, hI6, hI8, hI13, hI16, hIt, hIk, hI1, hIim, hI25, hI26, hI08⟩ := id hIn
  have hOl1 := hOl.1.1
  refine g_aload_n C 0 dX11_fault_0 rfl rfl rfl ?_
  refine gf_11_13 C (hGa) (v := .ref (x + 3)) rfl dX11_fault_1 rfl ?_
  refine g_callVi C (As := []) (q := (RX8, TX8, 2)) (k_X8_firstFault l D b z hI16 hPg) hw_11_71 (hPg.1) rfl (by decide) rfl rfl (Nat.le_of_ble_eq_true rfl) ⟨Nat.zero_le _, Nat.zero_le _⟩ dX11_fault_4 (pc' := 7) rfl ?_
  rintro _ h9 ⟨⟨k, rfl, hk⟩, e9⟩
  subst h9
  exact ret _ _ _ _ dX11_fault_7 rfl (⟨by rw [ffC_eq hk], rfl⟩)
def stT {α : Type} (σ : sg) (x y : α) : α := if 0 < gN σ 3 then x else y
theorem cl_ok {D : va_G} {h : qH} {x : Nat} {σ : sg} (hIn : InS σ) (H : ClOl D h x σ) (hs : 0 < gN σ 3) : OlOK D h (x + 5) (x + 1) (tnS σ) (nI (gN σ 4)) (gB σ 7) (gI σ 5) (gN σ 6) := H.2 (hIn.2.2.1.mpr hs)
noncomputable def cFollows (σ : sg) (v w : Int32) : Int32 := cIf (inP 0 2 v ∧ inP 0 2 w) (stT σ (tnS σ (v.toNatClampNeg * 3 + w.toNatClampNeg)) (-103)) (-101)
theorem nIc {k : Nat} (h : k < 2 ^ 31) : (nI k).toNatClampNeg = k := nI_clamp h
set_option maxHeartbeats 4000000 in
set_option maxRecDepth 100000 in
theorem k_X11_follows (l : Launch) (D : va_G) (b z : Nat) {h : qH} {x : Nat} {σ : sg} (hC : Cls D h x σ) (v w : Int32) : qMi l D b yX11_follows cX11_follows 3 .int 1 23 [.ref (x), .int (v), .int (w)] h z (fun r h' => r = cFollows σ v w ∧ h' = h) := by
  refine q_i (L := [(0, .ref (x)), (1, .int (v)), (2, .int (w))]) (own := RX11) (by decide) rfl (Nat.le_of_ble_eq_true rfl) rfl ?_
  intro X C ret
  obtain ⟨hIn, hGa, hSt, hPg, hOl, hPe, hBk, hTr, hIm⟩ := id hC
  replace hGa : GaAt h x (nI (gN σ 1)) := hGa
  replace hSt : StAt D h (x + 1) (tnS σ) (nI (gN σ 3)) (nI (gN σ 4)) := hSt
  replace hPg : PgAt D h (x + 3) (gB σ 17) (nI (gN σ 16)) := hPg
  replace hBk : BkAt D h (x + 40) (gB σ 14) (gB σ 15) (nI (gN σ 13)) := hBk
  obtain ⟨hI0, hI3, hI03, hI4, hI6, hI8, hI13, hI16, hIt, hIk, hI1, hIim, hI25, hI26, hI08⟩ := id hIn
  have hOl1 := hOl.1.1
  refine g_iload_n C 1 dX11_follows_0 rfl rfl rfl ?_
  refine g_callSi C (As := [.int (v)]) (kp_X11_isWeather l D b z h (v)) hw_11_100 (by decide) rfl rfl (Nat.le_of_ble_eq_true rfl) ⟨Nat.zero_le _, Nat.zero_le _⟩ dX11_follows_1 (pc' := 4) rfl ?_
  rintro r1 h9 ⟨⟨er, hp1⟩ | ⟨er, hp1⟩, e9⟩
  · subst h9; subst er
    have hp1_ := hp1
    obtain ⟨i, rfl, hp1a, hp1b⟩ := hp1_
    refine g_if_eq C dX11_follows_4 (tgt := 14) (by decide) (pc' := 7) rfl (fun c4 => absurd c4 (by decide)) (fun _ => ?_)
    refine g_iload_n C 2 dX11_follows_7 rfl rfl rfl ?_
    refine g_callSi C (As := [.int (w)]) (kp_X11_isWeather l D b z h (w)) hw_11_100 (by decide) rfl rfl (Nat.le_of_ble_eq_true rfl) ⟨Nat.zero_le _, Nat.zero_le _⟩ dX11_follows_8 (pc' := 11) rfl ?_
    rintro r2 h9 ⟨⟨er, hp8⟩ | ⟨er, hp8⟩, e9⟩
    · subst h9; subst er
      have hp8_ := hp8
      obtain ⟨j, rfl, hp8a, hp8b⟩ := hp8_
      refine g_if_ne C dX11_follows_11 (tgt := 17) (by decide) (pc' := 14) rfl (fun _ => ?_) (fun c11 => absurd c11 (by decide))
      refine g_aload_n C 0 dX11_follows_17 rfl rfl rfl ?_
      refine gf_11_19 C (hGa) (v := .ref (x + 1)) rfl dX11_follows_18 rfl ?_
      refine g_callVi C (As := []) (q := (RX9, TX9, 3)) (k_X9_isRead l D b z hIn.e hSt) hw_11_103 (hSt.1) rfl (by decide) rfl rfl (Nat.le_of_ble_eq_true rfl) ⟨Nat.zero_le _, Nat.zero_le _⟩ dX11_follows_21 (pc' := 24) rfl ?_
      rintro r3 h9 ⟨⟨er, hp21⟩ | ⟨er, hp21⟩, e9⟩
      · subst h9; subst er
        refine g_if_eq C dX11_follows_24 (tgt := 39) (by decide) (pc' := 27) rfl (fun c24 => absurd c24 (by decide)) (fun _ => ?_)
        refine g_aload_n C 0 dX11_follows_27 rfl rfl rfl ?_
        refine gf_11_19 C (hGa) (v := .ref (x + 1)) rfl dX11_follows_28 rfl ?_
        refine g_iload_n C 1 dX11_follows_31 rfl rfl rfl ?_
        refine g_iload_n C 2 dX11_follows_32 rfl rfl rfl ?_
        refine g_callVi C (As := [.int (nI (i)), .int (nI (j))]) (q := (RX9, TX9, 3)) (k_X9_tenthsFrom l D b z hIn.e hSt (v := i) (w := j) (by omega) (by omega)) hw_11_106 (hSt.1) rfl (by decide) rfl rfl (Nat.le_of_ble_eq_true rfl) ⟨Nat.zero_le _, Nat.zero_le _⟩ dX11_follows_33 (pc' := 36) rfl ?_
        rintro r4 h9 ⟨er, e9⟩
        subst h9; subst er
        refine g_goto C dX11_follows_36 (tgt := 41) (by decide) ?_
        exact ret _ _ _ _ dX11_follows_41 rfl (⟨by unfold cFollows stT; rw [cIf_t ⟨hp1, hp8⟩, if_pos hp21, nIc (by omega), nIc (by omega)], rfl⟩)
      · subst h9; subst er
        refine g_if_eq C dX11_follows_24 (tgt := 39) (by decide) (pc' := 27) rfl (fun _ => ?_) (fun c24 => absurd (by decide) c24)
        refine g_bipush C (v := -103) dX11_follows_39 (by decide) rfl ?_
        exact ret _ _ _ _ dX11_follows_41 rfl (⟨by unfold cFollows stT; rw [cIf_t ⟨hp1, hp8⟩, if_neg hp21], rfl⟩)
    · subst h9; subst er
      refine g_if_ne C dX11_follows_11 (tgt := 17) (by decide) (pc' := 14) rfl (fun c11 => absurd (by decide) c11) (fun _ => ?_)
      refine g_bipush C (v := -101) dX11_follows_14 (by decide) rfl ?_
      exact ret _ _ _ _ dX11_follows_16 rfl (⟨by unfold cFollows; rw [cIf_f (fun g => hp8 g.2)], rfl⟩)
  · subst h9; subst er
    refine g_if_eq C dX11_follows_4 (tgt := 14) (by decide) (pc' := 7) rfl (fun _ => ?_) (fun c4 => absurd (by decide) c4)
    refine g_bipush C (v := -101) dX11_follows_14 (by decide) rfl ?_
    exact ret _ _ _ _ dX11_follows_16 rfl (⟨by unfold cFollows; rw [cIf_f (fun g => hp1 g.1)], rfl⟩)
noncomputable def cTold (σ : sg) (k : Int32) : Int32 := cIf (inP 1 4 k) (stT σ (gB σ 7 k.toNatClampNeg) (-103)) (-101)
set_option maxHeartbeats 4000000 in
set_option maxRecDepth 100000 in
theorem k_X11_told (l : Launch) (D : va_G) (b z : Nat) {h : qH} {x : Nat} {σ : sg} (hC : Cls D h x σ) (k : Int32) : qMi l D b yX11_told cX11_told 2 .int 1 21 [.ref (x), .int (k)] h z (fun r h' => r = cTold σ k ∧ h' = h) := by
  refine q_i (L := [(0, .ref (x)), (1, .int (k))]) (own := RX11) (by decide) rfl (Nat.le_of_ble_eq_true rfl) rfl ?_
  intro X C ret
  obtain ⟨hIn, hGa, hSt, hPg, hOl, hPe, hBk, hTr, hIm⟩ := id hC
  replace hGa : GaAt h x (nI (gN σ 1)) := hGa
  replace hSt : StAt D h (x + 1) (tnS σ) (nI (gN σ 3)) (nI (gN σ 4)) := hSt
  replace hPg : PgAt D h (x + 3) (gB σ 17) (nI (gN σ 16)) := hPg
  replace hBk : BkAt D h (x + 40) (gB σ 14) (gB σ 15) (nI (gN σ 13)) := hBk
  obtain ⟨hI0, hI3, hI03, hI4, hI6, hI8, hI13, hI16, hIt, hIk, hI1, hIim, hI25, hI26, hI08⟩ := id hIn
  have hOl1 := hOl.1.1
  refine g_iload_n C 1 dX11_told_0 rfl rfl rfl ?_
  refine g_iconst C (v := 1) dX11_told_1 (by decide) rfl ?_
  refine g_icmp_lt C dX11_told_2 (tgt := 10) (by decide) (pc' := 5) rfl ?_ ?_
  · intro c2
    have hk4 : ¬ inP 1 4 k := fun g => by have g2 := inP_to (by decide) g; have e1 : (1 : Int32).toInt = 1 := (by decide); have e4 : (4 : Int32).toInt = 4 := (by decide); simp only [Int32.lt_iff_toInt_lt, Int32.le_iff_toInt_le] at c2; omega
    refine g_bipush C (v := -101) dX11_told_10 (by decide) rfl ?_
    exact ret _ _ _ _ dX11_told_12 rfl (⟨by unfold cTold; rw [cIf_f hk4], rfl⟩)
  · intro c2
    refine g_iload_n C 1 dX11_told_5 rfl rfl rfl ?_
    refine g_iconst C (v := 4) dX11_told_6 (by decide) rfl ?_
    refine g_icmp_le C dX11_told_7 (tgt := 13) (by decide) (pc' := 10) rfl ?_ ?_
    · intro c7
      have hk4 : inP 1 4 k := by have e1 : (1 : Int32).toInt = 1 := (by decide); have e4 : (4 : Int32).toInt = 4 := (by decide); simp only [Int32.lt_iff_toInt_lt, Int32.le_iff_toInt_le] at c2 c7; exact inP_of (by decide) (by omega) (by omega)
      have hk4_ := hk4
      obtain ⟨i, rfl, hi1, hi2⟩ := hk4_
      refine g_aload_n C 0 dX11_told_13 rfl rfl rfl ?_
      refine gf_11_19 C (hGa) (v := .ref (x + 1)) rfl dX11_told_14 rfl ?_
      refine g_callVi C (As := []) (q := (RX9, TX9, 3)) (k_X9_isRead l D b z hIn.e hSt) hw_11_103 (hSt.1) rfl (by decide) rfl rfl (Nat.le_of_ble_eq_true rfl) ⟨Nat.zero_le _, Nat.zero_le _⟩ dX11_told_17 (pc' := 20) rfl ?_
      rintro r1 h9 ⟨⟨er, hp17⟩ | ⟨er, hp17⟩, e9⟩
      · subst h9; subst er
        refine g_if_eq C dX11_told_20 (tgt := 34) (by decide) (pc' := 23) rfl (fun c20 => absurd c20 (by decide)) (fun _ => ?_)
        refine g_aload_n C 0 dX11_told_23 rfl rfl rfl ?_
        refine gf_11_28 C (hGa) (v := .ref (x + 5)) rfl dX11_told_24 rfl ?_
        refine g_iload_n C 1 dX11_told_27 rfl rfl rfl ?_
        refine g_callVi C (As := [.int (nI (i))]) (q := (RX7, TX7, 8)) (k_X7_readingOf l D b z hOl1 (k := i) (by omega)) hw_11_116 (hOl1.1) rfl (by decide) rfl rfl (Nat.le_of_ble_eq_true rfl) ⟨Nat.zero_le _, Nat.zero_le _⟩ dX11_told_28 (pc' := 31) rfl ?_
        rintro r2 h9 ⟨er, e9⟩
        subst h9; subst er
        refine g_goto C dX11_told_31 (tgt := 36) (by decide) ?_
        exact ret _ _ _ _ dX11_told_36 rfl (⟨by unfold cTold stT F_rdg; rw [cIf_t hk4, if_pos hp17, nIc (by omega), if_pos ⟨hi1, hi2⟩], rfl⟩)
      · subst h9; subst er
        refine g_if_eq C dX11_told_20 (tgt := 34) (by decide) (pc' := 23) rfl (fun _ => ?_) (fun c20 => absurd (by decide) c20)
        refine g_bipush C (v := -103) dX11_told_34 (by decide) rfl ?_
        exact ret _ _ _ _ dX11_told_36 rfl (⟨by unfold cTold stT; rw [cIf_t hk4, if_neg hp17], rfl⟩)
    · intro c7
      have hk4 : ¬ inP 1 4 k := fun g => by have g2 := inP_to (by decide) g; have e1 : (1 : Int32).toInt = 1 := (by decide); have e4 : (4 : Int32).toInt = 4 := (by decide); simp only [Int32.lt_iff_toInt_lt, Int32.le_iff_toInt_le] at c7; omega
      refine g_bipush C (v := -101) dX11_told_10 (by decide) rfl ?_
      exact ret _ _ _ _ dX11_told_12 rfl (⟨by unfold cTold; rw [cIf_f hk4], rfl⟩)
noncomputable def cLikely (σ : sg) (k w p : Int32) : Int64 := cIf (inP 1 6 k ∧ inP 0 2 w) (cIf (inP 0 1 p) (stT σ (F_low (oddF (stS σ) (gN σ 6) k.toNatClampNeg w.toNatClampNeg) (allF (stS σ) (gN σ 6)) p) (-103)) (-102)) (-101)
def cLikeliest (σ : sg) : Int32 := stT σ (nI (grS (stS σ) (gN σ 6) 6).1) (-103)
def cWays (σ : sg) : Int32 := stT σ (wyD (stS σ) 6 (gN σ 6)) (-103)
noncomputable def cSure (σ : sg) (k : Int32) : Int32 := cIf (inP 1 6 k) (stT σ (srF (fun w => oddF (stS σ) (gN σ 6) k.toNatClampNeg w)) (-103)) (-101)
def mbS (σ : sg) (r c t : Int32) : Int64 := mbF (fun w => oddF (stS σ) (gN σ 6) 1 w) (nI (gN σ 4)) r c t
noncomputable def cLook (σ : sg) (c t p : Int32) : Int64 := cIf (inP 1 9 c ∧ inP 1 9 t ∧ inP 0 1 p) (stT σ (F_low (10 * mbS σ (-1) c t - (((0 + mbS σ 0 c t) + mbS σ 1 c t) + mbS σ 2 c t)) (10 * allF (stS σ) (gN σ 6)) p) (-103)) (-102)
theorem kS_X7_oddsOf (l : Launch) (D : va_G) (b z : Nat) {h : qH} {x : Nat} {σ : sg} (hI6 : gN σ 6 < 3) (hI3 : gN σ 3 < 10) (hSt : StAt D h (x + 1) (tnS σ) (nI (gN σ 3)) (nI (gN σ 4))) (hOK : OlOK D h (x + 5) (x + 1) (tnS σ) (nI (gN σ 4)) (gB σ 7) (gI σ 5) (gN σ 6)) {k w : Nat} (hk : 1 ≤ k ∧ k ≤ 6) (hw : w < 3) : qMl l D b yX7_oddsOf cX7_oddsOf 3 1 20 [.ref (x + 5), .int (nI k), .int (nI w)] h z (fun r0 h' => r0 = oddF (stS σ) (gN σ 6) k w ∧ h' = h) := k_X7_oddsOf l D b z hI6 hOK hk hw
theorem kS_X7_allOdds (l : Launch) (D : va_G) (b z : Nat) {h : qH} {x : Nat} {σ : sg} (hI6 : gN σ 6 < 3) (hI3 : gN σ 3 < 10) (hSt : StAt D h (x + 1) (tnS σ) (nI (gN σ 3)) (nI (gN σ 4))) (hOK : OlOK D h (x + 5) (x + 1) (tnS σ) (nI (gN σ 4)) (gB σ 7) (gI σ 5) (gN σ 6)) : qMl l D b yX7_allOdds cX7_allOdds 4 0 0 [.ref (x + 5)] h z (fun r0 h' => r0 = allF (stS σ) (gN σ 6) ∧ h' = h) := k_X7_allOdds l D b z hI6 hOK
theorem kS_X7_possibleDays (l : Launch) (D : va_G) (b z : Nat) {h : qH} {x : Nat} {σ : sg} (hI6 : gN σ 6 < 3) (hI3 : gN σ 3 < 10) (hSt : StAt D h (x + 1) (tnS σ) (nI (gN σ 3)) (nI (gN σ 4))) (hOK : OlOK D h (x + 5) (x + 1) (tnS σ) (nI (gN σ 4)) (gB σ 7) (gI σ 5) (gN σ 6)) : qMi l D b yX7_possibleDays cX7_possibleDays 1 .int 1 20 [.ref (x + 5)] h z (fun r0 h' => r0 = wyD (stS σ) 6 (gN σ 6) ∧ h' = h) := k_X7_possibleDays l D b z hI6 hOK
theorem kS_X7_sureWeather (l : Launch) (D : va_G) (b z : Nat) {h : qH} {x : Nat} {σ : sg} (hI6 : gN σ 6 < 3) (hI3 : gN σ 3 < 10) (hSt : StAt D h (x + 1) (tnS σ) (nI (gN σ 3)) (nI (gN σ 4))) (hOK : OlOK D h (x + 5) (x + 1) (tnS σ) (nI (gN σ 4)) (gB σ 7) (gI σ 5) (gN σ 6)) {k : Nat} (hk : 1 ≤ k ∧ k ≤ 6) : qMi l D b yX7_sureWeather cX7_sureWeather 4 .int 2 42 [.ref (x + 5), .int (nI k)] h z (fun r0 h' => r0 = srF (fun w => oddF (stS σ) (gN σ 6) k w) ∧ h' = h) := k_X7_sureWeather l D b z hI6 hOK hk
theorem kS_X7_numberOfMostOdds (l : Launch) (D : va_G) (b z : Nat) {h : qH} {x : Nat} {σ : sg} (hI6 : gN σ 6 < 3) (hI3 : gN σ 3 < 10) (hSt : StAt D h (x + 1) (tnS σ) (nI (gN σ 3)) (nI (gN σ 4))) (hOK : OlOK D h (x + 5) (x + 1) (tnS σ) (nI (gN σ 4)) (gB σ 7) (gI σ 5) (gN σ 6)) : qMi l D b yX7_numberOfMostOdds cX7_numberOfMostOdds 10 .int 2 46 [.ref (x + 5)] h z (fun r0 h' => r0 = nI (grS (stS σ) (gN σ 6) 6).1 ∧ h' = h) := k_X7_numberOfMostOdds l D b z hI6 hOK hI3 hSt
theorem kS_X7_meanByKnowing (l : Launch) (D : va_G) (b z : Nat) {h : qH} {x : Nat} {σ : sg} (hI6 : gN σ 6 < 3) (hI3 : gN σ 3 < 10) (hSt : StAt D h (x + 1) (tnS σ) (nI (gN σ 3)) (nI (gN σ 4))) (hOK : OlOK D h (x + 5) (x + 1) (tnS σ) (nI (gN σ 4)) (gB σ 7) (gI σ 5) (gN σ 6)) (r c t : Int32) : qMl l D b yX7_meanByKnowing cX7_meanByKnowing 8 2 42 [.ref (x + 5), .int r, .int c, .int t] h z (fun r0 h' => r0 = mbS σ r c t ∧ h' = h) := k_X7_meanByKnowing l D b z hI6 hOK hI3 hSt r c t
set_option maxHeartbeats 4000000 in
set_option maxRecDepth 100000 in
theorem k_X11_likely (l : Launch) (D : va_G) (b z : Nat) {h : qH} {x : Nat} {σ : sg} (hC : Cls D h x σ) (k w p : Int32) : qMl l D b yX11_likely cX11_likely 4 2 58 [.ref (x), .int (k), .int (w), .int (p)] h z (fun r h' => r = cLikely σ k w p ∧ h' = h) := by
  refine q_l (L := [(0, .ref (x)), (1, .int (k)), (2, .int (w)), (3, .int (p))]) (own := RX11) (by decide) rfl (Nat.le_of_ble_eq_true rfl) rfl ?_
  intro X C ret
  obtain ⟨hIn, hGa, hSt, hPg, hOl, hPe, hBk, hTr, hIm⟩ := id hC
  replace hGa : GaAt h x (nI (gN σ 1)) := hGa
  replace hSt : StAt D h (x + 1) (tnS σ) (nI (gN σ 3)) (nI (gN σ 4)) := hSt
  replace hPg : PgAt D h (x + 3) (gB σ 17) (nI (gN σ 16)) := hPg
  replace hBk : BkAt D h (x + 40) (gB σ 14) (gB σ 15) (nI (gN σ 13)) := hBk
  obtain ⟨hI0, hI3, hI03, hI4, hI6, hI8, hI13, hI16, hIt, hIk, hI1, hIim, hI25, hI26, hI08⟩ := id hIn
  have hOl1 := hOl.1.1
  refine g_iload_n C 1 dX11_likely_0 rfl rfl rfl ?_
  refine g_callSi C (As := [.int (k)]) (kp_X11_isAhead l D b z h (k)) hw_11_165 (by decide) rfl rfl (Nat.le_of_ble_eq_true rfl) ⟨Nat.zero_le _, Nat.zero_le _⟩ dX11_likely_1 (pc' := 4) rfl ?_
  rintro r1 h9 ⟨⟨er, hp1⟩ | ⟨er, hp1⟩, e9⟩
  · subst h9; subst er
    have hp1_ := hp1
    obtain ⟨i, rfl, hp1a, hp1b⟩ := hp1_
    refine g_if_eq C dX11_likely_4 (tgt := 14) (by decide) (pc' := 7) rfl (fun c4 => absurd c4 (by decide)) (fun _ => ?_)
    refine g_iload_n C 2 dX11_likely_7 rfl rfl rfl ?_
    refine g_callSi C (As := [.int (w)]) (kp_X11_isWeather l D b z h (w)) hw_11_100 (by decide) rfl rfl (Nat.le_of_ble_eq_true rfl) ⟨Nat.zero_le _, Nat.zero_le _⟩ dX11_likely_8 (pc' := 11) rfl ?_
    rintro r2 h9 ⟨⟨er, hp8⟩ | ⟨er, hp8⟩, e9⟩
    · subst h9; subst er
      have hp8_ := hp8
      obtain ⟨j, rfl, hp8a, hp8b⟩ := hp8_
      refine g_if_ne C dX11_likely_11 (tgt := 18) (by decide) (pc' := 14) rfl (fun _ => ?_) (fun c11 => absurd c11 (by decide))
      refine g_iload_n C 3 dX11_likely_18 rfl rfl rfl ?_
      refine g_callSi C (As := [.int (p)]) (kp_X11_isPart l D b z h (p)) hw_11_170 (by decide) rfl rfl (Nat.le_of_ble_eq_true rfl) ⟨Nat.zero_le _, Nat.zero_le _⟩ dX11_likely_19 (pc' := 22) rfl ?_
      rintro r3 h9 ⟨⟨er, hp19⟩ | ⟨er, hp19⟩, e9⟩
      · subst h9; subst er
        have hp19_ := hp19
        obtain ⟨y, rfl, hp19a, hp19b⟩ := hp19_
        refine g_if_ne C dX11_likely_22 (tgt := 29) (by decide) (pc' := 25) rfl (fun _ => ?_) (fun c22 => absurd c22 (by decide))
        refine g_aload_n C 0 dX11_likely_29 rfl rfl rfl ?_
        refine gf_11_19 C (hGa) (v := .ref (x + 1)) rfl dX11_likely_30 rfl ?_
        refine g_callVi C (As := []) (q := (RX9, TX9, 3)) (k_X9_isRead l D b z hIn.e hSt) hw_11_103 (hSt.1) rfl (by decide) rfl rfl (Nat.le_of_ble_eq_true rfl) ⟨Nat.zero_le _, Nat.zero_le _⟩ dX11_likely_33 (pc' := 36) rfl ?_
        rintro r4 h9 ⟨⟨er, hp33⟩ | ⟨er, hp33⟩, e9⟩
        · subst h9; subst er
          have hOK := cl_ok hIn hOl hp33
          refine g_if_ne C dX11_likely_36 (tgt := 43) (by decide) (pc' := 39) rfl (fun _ => ?_) (fun c36 => absurd c36 (by decide))
          refine g_aload_n C 0 dX11_likely_43 rfl rfl rfl ?_
          refine gf_11_28 C (hGa) (v := .ref (x + 5)) rfl dX11_likely_44 rfl ?_
          refine g_iload_n C 1 dX11_likely_47 rfl rfl rfl ?_
          refine g_iload_n C 2 dX11_likely_48 rfl rfl rfl ?_
          refine g_callVl C (As := [.int (nI (i)), .int (nI (j))]) (q := (RX7, TX7, 8)) (kS_X7_oddsOf l D b z hI6 hIn.e hSt hOK (k := i) (w := j) (by omega) (by omega)) hw_11_120 (hOl1.1) rfl (by decide) rfl rfl (Nat.le_of_ble_eq_true rfl) ⟨Nat.zero_le _, Nat.zero_le _⟩ dX11_likely_49 (pc' := 52) rfl ?_
          rintro r5 h9 ⟨er, e9⟩
          subst h9; subst er
          refine g_aload_n C 0 dX11_likely_52 rfl rfl rfl ?_
          refine gf_11_28 C (hGa) (v := .ref (x + 5)) rfl dX11_likely_53 rfl ?_
          refine g_callVl C (As := []) (q := (RX7, TX7, 8)) (kS_X7_allOdds l D b z hI6 hIn.e hSt hOK) hw_11_177 (hOl1.1) rfl (by decide) rfl rfl (Nat.le_of_ble_eq_true rfl) ⟨Nat.zero_le _, Nat.zero_le _⟩ dX11_likely_56 (pc' := 59) rfl ?_
          rintro r6 h9 ⟨er, e9⟩
          subst h9; subst er
          refine g_iload_n C 3 dX11_likely_59 rfl rfl rfl ?_
          refine g_callSl C (As := [.long (oddF (stS σ) (gN σ 6) (i) (j)), .long (allF (stS σ) (gN σ 6)), .int (nI (y))]) (k_X11_lowestTerms l D b z h (oddF (stS σ) (gN σ 6) (i) (j)) (allF (stS σ) (gN σ 6)) (nI (y))) hw_11_181 (by decide) rfl rfl (Nat.le_of_ble_eq_true rfl) ⟨Nat.zero_le _, Nat.zero_le _⟩ dX11_likely_60 (pc' := 63) rfl ?_
          rintro r7 h9 ⟨er, e9⟩
          subst h9; subst er
          exact ret _ _ _ _ dX11_likely_63 (⟨by unfold cLikely stT; rw [cIf_t ⟨hp1, hp8⟩, cIf_t hp19, if_pos hp33, nIc (by omega), nIc (by omega)], rfl⟩)
        · subst h9; subst er
          refine g_if_ne C dX11_likely_36 (tgt := 43) (by decide) (pc' := 39) rfl (fun c36 => absurd (by decide) c36) (fun _ => ?_)
          refine g_ldc2 C kl_11_175 dX11_likely_39 rfl ?_
          exact ret _ _ _ _ dX11_likely_42 (⟨by unfold cLikely stT; rw [cIf_t ⟨hp1, hp8⟩, cIf_t hp19, if_neg hp33], rfl⟩)
      · subst h9; subst er
        refine g_if_ne C dX11_likely_22 (tgt := 29) (by decide) (pc' := 25) rfl (fun c22 => absurd (by decide) c22) (fun _ => ?_)
        refine g_ldc2 C kl_11_173 dX11_likely_25 rfl ?_
        exact ret _ _ _ _ dX11_likely_28 (⟨by unfold cLikely; rw [cIf_t ⟨hp1, hp8⟩, cIf_f hp19], rfl⟩)
    · subst h9; subst er
      refine g_if_ne C dX11_likely_11 (tgt := 18) (by decide) (pc' := 14) rfl (fun c11 => absurd (by decide) c11) (fun _ => ?_)
      refine g_ldc2 C kl_11_168 dX11_likely_14 rfl ?_
      exact ret _ _ _ _ dX11_likely_17 (⟨by unfold cLikely; rw [cIf_f (fun g => hp8 g.2)], rfl⟩)
  · subst h9; subst er
    refine g_if_eq C dX11_likely_4 (tgt := 14) (by decide) (pc' := 7) rfl (fun _ => ?_) (fun c4 => absurd (by decide) c4)
    refine g_ldc2 C kl_11_168 dX11_likely_14 rfl ?_
    exact ret _ _ _ _ dX11_likely_17 (⟨by unfold cLikely; rw [cIf_f (fun g => hp1 g.1)], rfl⟩)
set_option maxHeartbeats 4000000 in
set_option maxRecDepth 100000 in
theorem k_X11_likeliest (l : Launch) (D : va_G) (b z : Nat) {h : qH} {x : Nat} {σ : sg} (hC : Cls D h x σ)  : qMi l D b yX11_likeliest cX11_likeliest 1 .int 3 75 [.ref (x)] h z (fun r h' => r = cLikeliest σ ∧ h' = h) := by
  refine q_i (L := [(0, .ref (x))]) (own := RX11) (by decide) rfl (Nat.le_of_ble_eq_true rfl) rfl ?_
  intro X C ret
  obtain ⟨hIn, hGa, hSt, hPg, hOl, hPe, hBk, hTr, hIm⟩ := id hC
  replace hGa : GaAt h x (nI (gN σ 1)) := hGa
  replace hSt : StAt D h (x + 1) (tnS σ) (nI (gN σ 3)) (nI (gN σ 4)) := hSt
  replace hPg : PgAt D h (x + 3) (gB σ 17) (nI (gN σ 16)) := hPg
  replace hBk : BkAt D h (x + 40) (gB σ 14) (gB σ 15) (nI (gN σ 13)) := hBk
  obtain ⟨hI0, hI3, hI03, hI4, hI6, hI8, hI13, hI16, hIt, hIk, hI1, hIim, hI25, hI26, hI08⟩ := id hIn
  have hOl1 := hOl.1.1
  refine g_aload_n C 0 dX11_likeliest_0 rfl rfl rfl ?_
  refine gf_11_19 C (hGa) (v := .ref (x + 1)) rfl dX11_likeliest_1 rfl ?_
  refine g_callVi C (As := []) (q := (RX9, TX9, 3)) (k_X9_isRead l D b z hIn.e hSt) hw_11_103 (hSt.1) rfl (by decide) rfl rfl (Nat.le_of_ble_eq_true rfl) ⟨Nat.zero_le _, Nat.zero_le _⟩ dX11_likeliest_4 (pc' := 7) rfl ?_
  rintro r1 h9 ⟨⟨er, hp4⟩ | ⟨er, hp4⟩, e9⟩
  · subst h9; subst er
    have hOK := cl_ok hIn hOl hp4
    refine g_if_eq C dX11_likeliest_7 (tgt := 20) (by decide) (pc' := 10) rfl (fun c7 => absurd c7 (by decide)) (fun _ => ?_)
    refine g_aload_n C 0 dX11_likeliest_10 rfl rfl rfl ?_
    refine gf_11_28 C (hGa) (v := .ref (x + 5)) rfl dX11_likeliest_11 rfl ?_
    refine g_callVi C (As := []) (q := (RX7, TX7, 8)) (kS_X7_numberOfMostOdds l D b z hI6 hIn.e hSt hOK) hw_11_185 (hOl1.1) rfl (by decide) rfl rfl (Nat.le_of_ble_eq_true rfl) ⟨Nat.zero_le _, Nat.zero_le _⟩ dX11_likeliest_14 (pc' := 17) rfl ?_
    rintro r2 h9 ⟨er, e9⟩
    subst h9; subst er
    refine g_goto C dX11_likeliest_17 (tgt := 22) (by decide) ?_
    exact ret _ _ _ _ dX11_likeliest_22 rfl (⟨by unfold cLikeliest stT; rw [if_pos hp4], rfl⟩)
  · subst h9; subst er
    refine g_if_eq C dX11_likeliest_7 (tgt := 20) (by decide) (pc' := 10) rfl (fun _ => ?_) (fun c7 => absurd (by decide) c7)
    refine g_bipush C (v := -103) dX11_likeliest_20 (by decide) rfl ?_
    exact ret _ _ _ _ dX11_likeliest_22 rfl (⟨by unfold cLikeliest stT; rw [if_neg hp4], rfl⟩)
set_option maxHeartbeats 4000000 in
set_option maxRecDepth 100000 in
theorem k_X11_ways (l : Launch) (D : va_G) (b z : Nat) {h : qH} {x : Nat} {σ : sg} (hC : Cls D h x σ)  : qMi l D b yX11_ways cX11_ways 1 .int 2 40 [.ref (x)] h z (fun r h' => r = cWays σ ∧ h' = h) := by
  refine q_i (L := [(0, .ref (x))]) (own := RX11) (by decide) rfl (Nat.le_of_ble_eq_true rfl) rfl ?_
  intro X C ret
  obtain ⟨hIn, hGa, hSt, hPg, hOl, hPe, hBk, hTr, hIm⟩ := id hC
  replace hGa : GaAt h x (nI (gN σ 1)) := hGa
  replace hSt : StAt D h (x + 1) (tnS σ) (nI (gN σ 3)) (nI (gN σ 4)) := hSt
  replace hPg : PgAt D h (x + 3) (gB σ 17) (nI (gN σ 16)) := hPg
  replace hBk : BkAt D h (x + 40) (gB σ 14) (gB σ 15) (nI (gN σ 13)) := hBk
  obtain ⟨hI0, hI3, hI03, hI4, hI6, hI8, hI13, hI16, hIt, hIk, hI1, hIim, hI25, hI26, hI08⟩ := id hIn
  have hOl1 := hOl.1.1
  refine g_aload_n C 0 dX11_ways_0 rfl rfl rfl ?_
  refine gf_11_19 C (hGa) (v := .ref (x + 1)) rfl dX11_ways_1 rfl ?_
  refine g_callVi C (As := []) (q := (RX9, TX9, 3)) (k_X9_isRead l D b z hIn.e hSt) hw_11_103 (hSt.1) rfl (by decide) rfl rfl (Nat.le_of_ble_eq_true rfl) ⟨Nat.zero_le _, Nat.zero_le _⟩ dX11_ways_4 (pc' := 7) rfl ?_
  rintro r1 h9 ⟨⟨er, hp4⟩ | ⟨er, hp4⟩, e9⟩
  · subst h9; subst er
    have hOK := cl_ok hIn hOl hp4
    refine g_if_eq C dX11_ways_7 (tgt := 20) (by decide) (pc' := 10) rfl (fun c7 => absurd c7 (by decide)) (fun _ => ?_)
    refine g_aload_n C 0 dX11_ways_10 rfl rfl rfl ?_
    refine gf_11_28 C (hGa) (v := .ref (x + 5)) rfl dX11_ways_11 rfl ?_
    refine g_callVi C (As := []) (q := (RX7, TX7, 8)) (kS_X7_possibleDays l D b z hI6 hIn.e hSt hOK) hw_11_188 (hOl1.1) rfl (by decide) rfl rfl (Nat.le_of_ble_eq_true rfl) ⟨Nat.zero_le _, Nat.zero_le _⟩ dX11_ways_14 (pc' := 17) rfl ?_
    rintro r2 h9 ⟨er, e9⟩
    subst h9; subst er
    refine g_goto C dX11_ways_17 (tgt := 22) (by decide) ?_
    exact ret _ _ _ _ dX11_ways_22 rfl (⟨by unfold cWays stT; rw [if_pos hp4], rfl⟩)
  · subst h9; subst er
    refine g_if_eq C dX11_ways_7 (tgt := 20) (by decide) (pc' := 10) rfl (fun _ => ?_) (fun c7 => absurd (by decide) c7)
    refine g_bipush C (v := -103) dX11_ways_20 (by decide) rfl ?_
    exact ret _ _ _ _ dX11_ways_22 rfl (⟨by unfold cWays stT; rw [if_neg hp4], rfl⟩)
set_option maxHeartbeats 4000000 in
set_option maxRecDepth 100000 in
theorem k_X11_sure (l : Launch) (D : va_G) (b z : Nat) {h : qH} {x : Nat} {σ : sg} (hC : Cls D h x σ) (k : Int32) : qMi l D b yX11_sure cX11_sure 2 .int 3 65 [.ref (x), .int (k)] h z (fun r h' => r = cSure σ k ∧ h' = h) := by
  refine q_i (L := [(0, .ref (x)), (1, .int (k))]) (own := RX11) (by decide) rfl (Nat.le_of_ble_eq_true rfl) rfl ?_
  intro X C ret
  obtain ⟨hIn, hGa, hSt, hPg, hOl, hPe, hBk, hTr, hIm⟩ := id hC
  replace hGa : GaAt h x (nI (gN σ 1)) := hGa
  replace hSt : StAt D h (x + 1) (tnS σ) (nI (gN σ 3)) (nI (gN σ 4)) := hSt
  replace hPg : PgAt D h (x + 3) (gB σ 17) (nI (gN σ 16)) := hPg
  replace hBk : BkAt D h (x + 40) (gB σ 14) (gB σ 15) (nI (gN σ 13)) := hBk
  obtain ⟨hI0, hI3, hI03, hI4, hI6, hI8, hI13, hI16, hIt, hIk, hI1, hIim, hI25, hI26, hI08⟩ := id hIn
  have hOl1 := hOl.1.1
  refine g_iload_n C 1 dX11_sure_0 rfl rfl rfl ?_
  refine g_callSi C (As := [.int (k)]) (kp_X11_isAhead l D b z h (k)) hw_11_165 (by decide) rfl rfl (Nat.le_of_ble_eq_true rfl) ⟨Nat.zero_le _, Nat.zero_le _⟩ dX11_sure_1 (pc' := 4) rfl ?_
  rintro r1 h9 ⟨⟨er, hp1⟩ | ⟨er, hp1⟩, e9⟩
  · subst h9; subst er
    have hp1_ := hp1
    obtain ⟨i, rfl, hp1a, hp1b⟩ := hp1_
    refine g_if_ne C dX11_sure_4 (tgt := 10) (by decide) (pc' := 7) rfl (fun _ => ?_) (fun c4 => absurd c4 (by decide))
    refine g_aload_n C 0 dX11_sure_10 rfl rfl rfl ?_
    refine gf_11_19 C (hGa) (v := .ref (x + 1)) rfl dX11_sure_11 rfl ?_
    refine g_callVi C (As := []) (q := (RX9, TX9, 3)) (k_X9_isRead l D b z hIn.e hSt) hw_11_103 (hSt.1) rfl (by decide) rfl rfl (Nat.le_of_ble_eq_true rfl) ⟨Nat.zero_le _, Nat.zero_le _⟩ dX11_sure_14 (pc' := 17) rfl ?_
    rintro r2 h9 ⟨⟨er, hp14⟩ | ⟨er, hp14⟩, e9⟩
    · subst h9; subst er
      have hOK := cl_ok hIn hOl hp14
      refine g_if_eq C dX11_sure_17 (tgt := 31) (by decide) (pc' := 20) rfl (fun c17 => absurd c17 (by decide)) (fun _ => ?_)
      refine g_aload_n C 0 dX11_sure_20 rfl rfl rfl ?_
      refine gf_11_28 C (hGa) (v := .ref (x + 5)) rfl dX11_sure_21 rfl ?_
      refine g_iload_n C 1 dX11_sure_24 rfl rfl rfl ?_
      refine g_callVi C (As := [.int (nI (i))]) (q := (RX7, TX7, 8)) (kS_X7_sureWeather l D b z hI6 hIn.e hSt hOK (k := i) (by omega)) hw_11_191 (hOl1.1) rfl (by decide) rfl rfl (Nat.le_of_ble_eq_true rfl) ⟨Nat.zero_le _, Nat.zero_le _⟩ dX11_sure_25 (pc' := 28) rfl ?_
      rintro r3 h9 ⟨er, e9⟩
      subst h9; subst er
      refine g_goto C dX11_sure_28 (tgt := 33) (by decide) ?_
      exact ret _ _ _ _ dX11_sure_33 rfl (⟨by unfold cSure stT; rw [cIf_t hp1, if_pos hp14, nIc (by omega)], rfl⟩)
    · subst h9; subst er
      refine g_if_eq C dX11_sure_17 (tgt := 31) (by decide) (pc' := 20) rfl (fun _ => ?_) (fun c17 => absurd (by decide) c17)
      refine g_bipush C (v := -103) dX11_sure_31 (by decide) rfl ?_
      exact ret _ _ _ _ dX11_sure_33 rfl (⟨by unfold cSure stT; rw [cIf_t hp1, if_neg hp14], rfl⟩)
  · subst h9; subst er
    refine g_if_ne C dX11_sure_4 (tgt := 10) (by decide) (pc' := 7) rfl (fun c4 => absurd (by decide) c4) (fun _ => ?_)
    refine g_bipush C (v := -101) dX11_sure_7 (by decide) rfl ?_
    exact ret _ _ _ _ dX11_sure_9 rfl (⟨by unfold cSure; rw [cIf_f hp1], rfl⟩)
set_option maxHeartbeats 4000000 in
set_option maxRecDepth 100000 in
theorem k_X11_look (l : Launch) (D : va_G) (b z : Nat) {h : qH} {x : Nat} {σ : sg} (hC : Cls D h x σ) (c t p : Int32) : qMl l D b yX11_look cX11_look 9 3 69 [.ref (x), .int (c), .int (t), .int (p)] h z (fun r h' => r = cLook σ c t p ∧ h' = h) := by
  refine q_l (L := [(0, .ref (x)), (1, .int (c)), (2, .int (t)), (3, .int (p))]) (own := RX11) (by decide) rfl (Nat.le_of_ble_eq_true rfl) rfl ?_
  intro X C ret
  obtain ⟨hIn, hGa, hSt, hPg, hOl, hPe, hBk, hTr, hIm⟩ := id hC
  replace hGa : GaAt h x (nI (gN σ 1)) := hGa
  replace hSt : StAt D h (x + 1) (tnS σ) (nI (gN σ 3)) (nI (gN σ 4)) := hSt
  replace hPg : PgAt D h (x + 3) (gB σ 17) (nI (gN σ 16)) := hPg
  replace hBk : BkAt D h (x + 40) (gB σ 14) (gB σ 15) (nI (gN σ 13)) := hBk
  obtain ⟨hI0, hI3, hI03, hI4, hI6, hI8, hI13, hI16, hIt, hIk, hI1, hIim, hI25, hI26, hI08⟩ := id hIn
  have hOl1 := hOl.1.1
  refine g_iload_n C 1 dX11_look_0 rfl rfl rfl ?_
  refine g_callSi C (As := [.int (c)]) (kp_X11_isPrice l D b z h (c)) hw_11_137 (by decide) rfl rfl (Nat.le_of_ble_eq_true rfl) ⟨Nat.zero_le _, Nat.zero_le _⟩ dX11_look_1 (pc' := 4) rfl ?_
  rintro r1 h9 ⟨⟨er, hp1⟩ | ⟨er, hp1⟩, e9⟩
  · subst h9; subst er
    have hp1_ := hp1
    obtain ⟨i, rfl, hp1a, hp1b⟩ := hp1_
    refine g_if_eq C dX11_look_4 (tgt := 21) (by decide) (pc' := 7) rfl (fun c4 => absurd c4 (by decide)) (fun _ => ?_)
    refine g_iload_n C 2 dX11_look_7 rfl rfl rfl ?_
    refine g_callSi C (As := [.int (t)]) (kp_X11_isPrice l D b z h (t)) hw_11_137 (by decide) rfl rfl (Nat.le_of_ble_eq_true rfl) ⟨Nat.zero_le _, Nat.zero_le _⟩ dX11_look_8 (pc' := 11) rfl ?_
    rintro r2 h9 ⟨⟨er, hp8⟩ | ⟨er, hp8⟩, e9⟩
    · subst h9; subst er
      have hp8_ := hp8
      obtain ⟨j, rfl, hp8a, hp8b⟩ := hp8_
      refine g_if_eq C dX11_look_11 (tgt := 21) (by decide) (pc' := 14) rfl (fun c11 => absurd c11 (by decide)) (fun _ => ?_)
      refine g_iload_n C 3 dX11_look_14 rfl rfl rfl ?_
      refine g_callSi C (As := [.int (p)]) (kp_X11_isPart l D b z h (p)) hw_11_170 (by decide) rfl rfl (Nat.le_of_ble_eq_true rfl) ⟨Nat.zero_le _, Nat.zero_le _⟩ dX11_look_15 (pc' := 18) rfl ?_
      rintro r3 h9 ⟨⟨er, hp15⟩ | ⟨er, hp15⟩, e9⟩
      · subst h9; subst er
        have hp15_ := hp15
        obtain ⟨y, rfl, hp15a, hp15b⟩ := hp15_
        refine g_if_ne C dX11_look_18 (tgt := 25) (by decide) (pc' := 21) rfl (fun _ => ?_) (fun c18 => absurd c18 (by decide))
        refine g_aload_n C 0 dX11_look_25 rfl rfl rfl ?_
        refine gf_11_19 C (hGa) (v := .ref (x + 1)) rfl dX11_look_26 rfl ?_
        refine g_callVi C (As := []) (q := (RX9, TX9, 3)) (k_X9_isRead l D b z hIn.e hSt) hw_11_103 (hSt.1) rfl (by decide) rfl rfl (Nat.le_of_ble_eq_true rfl) ⟨Nat.zero_le _, Nat.zero_le _⟩ dX11_look_29 (pc' := 32) rfl ?_
        rintro r4 h9 ⟨⟨er, hp29⟩ | ⟨er, hp29⟩, e9⟩
        · subst h9; subst er
          have hOK := cl_ok hIn hOl hp29
          refine g_if_ne C dX11_look_32 (tgt := 39) (by decide) (pc' := 35) rfl (fun _ => ?_) (fun c32 => absurd c32 (by decide))
          refine g_ldc2 C kl_11_194 dX11_look_39 rfl ?_
          refine g_aload_n C 0 dX11_look_42 rfl rfl rfl ?_
          refine gf_11_28 C (hGa) (v := .ref (x + 5)) rfl dX11_look_43 rfl ?_
          refine g_iconst C (v := -1) dX11_look_46 (by decide) rfl ?_
          refine g_iload_n C 1 dX11_look_47 rfl rfl rfl ?_
          refine g_iload_n C 2 dX11_look_48 rfl rfl rfl ?_
          refine g_callVl C (As := [.int ((-1)), .int (nI (i)), .int (nI (j))]) (q := (RX7, TX7, 8)) (kS_X7_meanByKnowing l D b z hI6 hIn.e hSt hOK ((-1)) (nI (i)) (nI (j))) hw_11_196 (hOl1.1) rfl (by decide) rfl rfl (Nat.le_of_ble_eq_true rfl) ⟨Nat.zero_le _, Nat.zero_le _⟩ dX11_look_49 (pc' := 52) rfl ?_
          rintro r5 h9 ⟨er, e9⟩
          subst h9; subst er
          refine g_lmul C dX11_look_52 rfl ?_
          refine g_lstore C ([(4, .long ((10) * (mbS σ ((-1)) (nI (i)) (nI (j))))), (0, .ref (x)), (1, .int (nI (i))), (2, .int (nI (j))), (3, .int (nI (y)))]) dX11_look_53 (by decide) rfl rfl ?_
          refine g_lconst C (v := 0) dX11_look_55 (by decide) rfl ?_
          refine g_lstore C ([(6, .long (0)), (4, .long ((10) * (mbS σ ((-1)) (nI (i)) (nI (j))))), (0, .ref (x)), (1, .int (nI (i))), (2, .int (nI (j))), (3, .int (nI (y)))]) dX11_look_56 (by decide) rfl rfl ?_
          refine g_iconst C (v := 0) dX11_look_58 (by decide) rfl ?_
          refine g_istore C ([(8, .int (0)), (6, .long (0)), (4, .long ((10) * (mbS σ ((-1)) (nI (i)) (nI (j))))), (0, .ref (x)), (1, .int (nI (i))), (2, .int (nI (j))), (3, .int (nI (y)))]) dX11_look_59 (by decide) rfl rfl ?_
          refine g_iload C 0 dX11_look_61 rfl rfl ?_
          refine g_iconst C (v := 3) dX11_look_63 (by decide) rfl ?_
          refine g_icmp_ge C dX11_look_64 (tgt := 89) (by decide) (pc' := 67) rfl (fun c64 => absurd c64 (by decide)) (fun _ => ?_)
          refine g_lload C 1 dX11_look_67 rfl rfl ?_
          refine g_aload_n C 3 dX11_look_69 rfl rfl rfl ?_
          refine gf_11_28 C (hGa) (v := .ref (x + 5)) rfl dX11_look_70 rfl ?_
          refine g_iload C 0 dX11_look_73 rfl rfl ?_
          refine g_iload_n C 4 dX11_look_75 rfl rfl rfl ?_
          refine g_iload_n C 5 dX11_look_76 rfl rfl rfl ?_
          refine g_callVl C (As := [.int (0), .int (nI (i)), .int (nI (j))]) (q := (RX7, TX7, 8)) (kS_X7_meanByKnowing l D b z hI6 hIn.e hSt hOK (0) (nI (i)) (nI (j))) hw_11_196 (hOl1.1) rfl (by decide) rfl rfl (Nat.le_of_ble_eq_true rfl) ⟨Nat.zero_le _, Nat.zero_le _⟩ dX11_look_77 (pc' := 80) rfl ?_
          rintro r6 h9 ⟨er, e9⟩
          subst h9; subst er
          refine g_ladd C dX11_look_80 rfl ?_
          refine g_lstore C ([(6, .long ((0) + (mbS σ (0) (nI (i)) (nI (j))))), (8, .int (0)), (4, .long ((10) * (mbS σ ((-1)) (nI (i)) (nI (j))))), (0, .ref (x)), (1, .int (nI (i))), (2, .int (nI (j))), (3, .int (nI (y)))]) dX11_look_81 (by decide) rfl rfl ?_
          refine g_iinc C (v := 1) 1 ([(8, .int (1)), (6, .long ((0) + (mbS σ (0) (nI (i)) (nI (j))))), (4, .long ((10) * (mbS σ ((-1)) (nI (i)) (nI (j))))), (0, .ref (x)), (1, .int (nI (i))), (2, .int (nI (j))), (3, .int (nI (y)))]) dX11_look_83 rfl (by decide) (by decide) rfl rfl ?_
          refine g_goto C dX11_look_86 (tgt := 61) (by decide) ?_
          refine g_iload C 0 dX11_look_61 rfl rfl ?_
          refine g_iconst C (v := 3) dX11_look_63 (by decide) rfl ?_
          refine g_icmp_ge C dX11_look_64 (tgt := 89) (by decide) (pc' := 67) rfl (fun c64 => absurd c64 (by decide)) (fun _ => ?_)
          refine g_lload C 1 dX11_look_67 rfl rfl ?_
          refine g_aload_n C 3 dX11_look_69 rfl rfl rfl ?_
          refine gf_11_28 C (hGa) (v := .ref (x + 5)) rfl dX11_look_70 rfl ?_
          refine g_iload C 0 dX11_look_73 rfl rfl ?_
          refine g_iload_n C 4 dX11_look_75 rfl rfl rfl ?_
          refine g_iload_n C 5 dX11_look_76 rfl rfl rfl ?_
          refine g_callVl C (As := [.int (1), .int (nI (i)), .int (nI (j))]) (q := (RX7, TX7, 8)) (kS_X7_meanByKnowing l D b z hI6 hIn.e hSt hOK (1) (nI (i)) (nI (j))) hw_11_196 (hOl1.1) rfl (by decide) rfl rfl (Nat.le_of_ble_eq_true rfl) ⟨Nat.zero_le _, Nat.zero_le _⟩ dX11_look_77 (pc' := 80) rfl ?_
          rintro r7 h9 ⟨er, e9⟩
          subst h9; subst er
          refine g_ladd C dX11_look_80 rfl ?_
          refine g_lstore C ([(6, .long (((0) + (mbS σ (0) (nI (i)) (nI (j)))) + (mbS σ (1) (nI (i)) (nI (j))))), (8, .int (1)), (4, .long ((10) * (mbS σ ((-1)) (nI (i)) (nI (j))))), (0, .ref (x)), (1, .int (nI (i))), (2, .int (nI (j))), (3, .int (nI (y)))]) dX11_look_81 (by decide) rfl rfl ?_
          refine g_iinc C (v := 2) 1 ([(8, .int (2)), (6, .long (((0) + (mbS σ (0) (nI (i)) (nI (j)))) + (mbS σ (1) (nI (i)) (nI (j))))), (4, .long ((10) * (mbS σ ((-1)) (nI (i)) (nI (j))))), (0, .ref (x)), (1, .int (nI (i))), (2, .int (nI (j))), (3, .int (nI (y)))]) dX11_look_83 rfl (by decide) (by decide) rfl rfl ?_
          refine g_goto C dX11_look_86 (tgt := 61) (by decide) ?_
          refine g_iload C 0 dX11_look_61 rfl rfl ?_
          refine g_iconst C (v := 3) dX11_look_63 (by decide) rfl ?_
          refine g_icmp_ge C dX11_look_64 (tgt := 89) (by decide) (pc' := 67) rfl (fun c64 => absurd c64 (by decide)) (fun _ => ?_)
          refine g_lload C 1 dX11_look_67 rfl rfl ?_
          refine g_aload_n C 3 dX11_look_69 rfl rfl rfl ?_
          refine gf_11_28 C (hGa) (v := .ref (x + 5)) rfl dX11_look_70 rfl ?_
          refine g_iload C 0 dX11_look_73 rfl rfl ?_
          refine g_iload_n C 4 dX11_look_75 rfl rfl rfl ?_
          refine g_iload_n C 5 dX11_look_76 rfl rfl rfl ?_
          refine g_callVl C (As := [.int (2), .int (nI (i)), .int (nI (j))]) (q := (RX7, TX7, 8)) (kS_X7_meanByKnowing l D b z hI6 hIn.e hSt hOK (2) (nI (i)) (nI (j))) hw_11_196 (hOl1.1) rfl (by decide) rfl rfl (Nat.le_of_ble_eq_true rfl) ⟨Nat.zero_le _, Nat.zero_le _⟩ dX11_look_77 (pc' := 80) rfl ?_
          rintro r8 h9 ⟨er, e9⟩
          subst h9; subst er
          refine g_ladd C dX11_look_80 rfl ?_
          refine g_lstore C ([(6, .long ((((0) + (mbS σ (0) (nI (i)) (nI (j)))) + (mbS σ (1) (nI (i)) (nI (j)))) + (mbS σ (2) (nI (i)) (nI (j))))), (8, .int (2)), (4, .long ((10) * (mbS σ ((-1)) (nI (i)) (nI (j))))), (0, .ref (x)), (1, .int (nI (i))), (2, .int (nI (j))), (3, .int (nI (y)))]) dX11_look_81 (by decide) rfl rfl ?_
          refine g_iinc C (v := 3) 1 ([(8, .int (3)), (6, .long ((((0) + (mbS σ (0) (nI (i)) (nI (j)))) + (mbS σ (1) (nI (i)) (nI (j)))) + (mbS σ (2) (nI (i)) (nI (j))))), (4, .long ((10) * (mbS σ ((-1)) (nI (i)) (nI (j))))), (0, .ref (x)), (1, .int (nI (i))), (2, .int (nI (j))), (3, .int (nI (y)))]) dX11_look_83 rfl (by decide) (by decide) rfl rfl ?_
          refine g_goto C dX11_look_86 (tgt := 61) (by decide) ?_
          refine g_iload C 0 dX11_look_61 rfl rfl ?_
          refine g_iconst C (v := 3) dX11_look_63 (by decide) rfl ?_
          refine g_icmp_ge C dX11_look_64 (tgt := 89) (by decide) (pc' := 67) rfl (fun _ => ?_) (fun c64 => absurd (by decide) c64)
          refine g_lload C 2 dX11_look_89 rfl rfl ?_
          refine g_lload C 1 dX11_look_91 rfl rfl ?_
          refine g_lsub C dX11_look_93 rfl ?_
          refine g_ldc2 C kl_11_194 dX11_look_94 rfl ?_
          refine g_aload_n C 3 dX11_look_97 rfl rfl rfl ?_
          refine gf_11_28 C (hGa) (v := .ref (x + 5)) rfl dX11_look_98 rfl ?_
          refine g_callVl C (As := []) (q := (RX7, TX7, 8)) (kS_X7_allOdds l D b z hI6 hIn.e hSt hOK) hw_11_177 (hOl1.1) rfl (by decide) rfl rfl (Nat.le_of_ble_eq_true rfl) ⟨Nat.zero_le _, Nat.zero_le _⟩ dX11_look_101 (pc' := 104) rfl ?_
          rintro r9 h9 ⟨er, e9⟩
          subst h9; subst er
          refine g_lmul C dX11_look_104 rfl ?_
          refine g_iload_n C 6 dX11_look_105 rfl rfl rfl ?_
          refine g_callSl C (As := [.long (((10) * (mbS σ ((-1)) (nI (i)) (nI (j)))) - ((((0) + (mbS σ (0) (nI (i)) (nI (j)))) + (mbS σ (1) (nI (i)) (nI (j)))) + (mbS σ (2) (nI (i)) (nI (j))))), .long ((10) * (allF (stS σ) (gN σ 6))), .int (nI (y))]) (k_X11_lowestTerms l D b z h (((10) * (mbS σ ((-1)) (nI (i)) (nI (j)))) - ((((0) + (mbS σ (0) (nI (i)) (nI (j)))) + (mbS σ (1) (nI (i)) (nI (j)))) + (mbS σ (2) (nI (i)) (nI (j))))) ((10) * (allF (stS σ) (gN σ 6))) (nI (y))) hw_11_181 (by decide) rfl rfl (Nat.le_of_ble_eq_true rfl) ⟨Nat.zero_le _, Nat.zero_le _⟩ dX11_look_106 (pc' := 109) rfl ?_
          rintro r10 h9 ⟨er, e9⟩
          subst h9; subst er
          exact ret _ _ _ _ dX11_look_109 (⟨by unfold cLook stT; rw [cIf_t ⟨hp1, hp8, hp15⟩, if_pos hp29], rfl⟩)
        · subst h9; subst er
          refine g_if_ne C dX11_look_32 (tgt := 39) (by decide) (pc' := 35) rfl (fun c32 => absurd (by decide) c32) (fun _ => ?_)
          refine g_ldc2 C kl_11_175 dX11_look_35 rfl ?_
          exact ret _ _ _ _ dX11_look_38 (⟨by unfold cLook stT; rw [cIf_t ⟨hp1, hp8, hp15⟩, if_neg hp29], rfl⟩)
      · subst h9; subst er
        refine g_if_ne C dX11_look_18 (tgt := 25) (by decide) (pc' := 21) rfl (fun c18 => absurd (by decide) c18) (fun _ => ?_)
        refine g_ldc2 C kl_11_173 dX11_look_21 rfl ?_
        exact ret _ _ _ _ dX11_look_24 (⟨by unfold cLook; rw [cIf_f (fun g => hp15 g.2.2)], rfl⟩)
    · subst h9; subst er
      refine g_if_eq C dX11_look_11 (tgt := 21) (by decide) (pc' := 14) rfl (fun _ => ?_) (fun c11 => absurd (by decide) c11)
      refine g_ldc2 C kl_11_173 dX11_look_21 rfl ?_
      exact ret _ _ _ _ dX11_look_24 (⟨by unfold cLook; rw [cIf_f (fun g => hp8 g.2.1)], rfl⟩)
  · subst h9; subst er
    refine g_if_eq C dX11_look_4 (tgt := 21) (by decide) (pc' := 7) rfl (fun _ => ?_) (fun c4 => absurd (by decide) c4)
    refine g_ldc2 C kl_11_173 dX11_look_21 rfl ?_
    exact ret _ _ _ _ dX11_look_24 (⟨by unfold cLook; rw [cIf_f (fun g => hp1 g.1)], rfl⟩)

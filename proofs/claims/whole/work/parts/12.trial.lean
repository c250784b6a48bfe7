/-! days by a seed -/
def dwN (tN : Nat → Nat) (v d : Nat) : Nat := if d < tN (v * 3) then 0 else if d < tN (v * 3) + tN (v * 3 + 1) then 1 else 2
theorem dwN_lt (tN : Nat → Nat) (v d : Nat) : dwN tN v d < 3 := by unfold dwN; split; omega; split <;> omega
def exS (tN : Nat → Nat) (t0 : (Nat → Nat) × Nat × Nat) : Nat → (Nat → Nat) × Nat × Nat
  | 0 => t0
  | k + 1 => if k + 1 ≤ (exS tN t0 k).2.1 then exS tN t0 k else (va_up (exS tN t0 k).1 (k + 1) (dwN tN ((exS tN t0 k).1 k) (drN (lcgN (exS tN t0 k).2.2))), k + 1, lcgN (exS tN t0 k).2.2)
def TnN (tn : Nat → Int32) (tN : Nat → Nat) : Prop := ∀ i, i < 9 → tn i = nI (tN i) ∧ tN i ≤ 10
def DrN (dr : Nat → Int32) (dN : Nat → Nat) : Prop := ∀ j, j < 5 → dr j = nI (dN j) ∧ dN j < 3
theorem DrN.up {dr : Nat → Int32} {dN : Nat → Nat} (H : DrN dr dN) {k x : Nat} (hx : x < 3) : DrN (upd dr k (nI x)) (va_up dN k x) := fun j hj => by
  by_cases e : j = k
  · subst e; simp only [upd, va_up, if_true]; exact ⟨trivial, hx⟩
  · simp only [upd, va_up, if_neg e]; exact H j hj
set_option maxHeartbeats 4000000 in
set_option maxRecDepth 100000 in
theorem k_X10_drawWeather (l : Launch) (D : va_G) (b z : Nat) {h : qH} {a s : Nat} {dr : Nat → Int32} {da : Int32} {sd : Nat} {wt pd sp : Int32} (hsd : sd < 2147483648) (hTr : TrAt D h a s dr da (lN sd) wt pd sp) {tn : Nat → Int32} {tN : Nat → Nat} (htn : TnN tn tN) {e : Nat} (he : e < 10) {sl : Int32} (hSt : StAt D h s tn (nI e) sl) (hds : ¬ s = a ∧ ¬ s + 1 = a) {v : Nat} (hv : v < 3) : qMi l D b yX10_drawWeather cX10_drawWeather 4 .int 1 23 [.ref (a), .int (nI (v))] h z (fun r h' => (r = nI (dwN tN v (drN (lcgN sd))) ∧ TrAt D h' a s dr da (lN (lcgN sd)) wt pd sp) ∧ ∀ q, ¬ q = a → h' q = h q) := by
  refine q_i (L := [(0, .ref (a)), (1, .int (nI (v)))]) (own := RX10) (by decide) rfl (Nat.le_of_ble_eq_true rfl) rfl ?_
  intro X C ret
  have hO : ∀ q, (¬ q = a) → h q = h q := fun _ _ => rfl
  refine g_aload_n C 0 dX10_drawWeather_0 rfl rfl rfl ?_
  refine g_callVi C (As := []) (q := (RX10, TX10, 8)) (k_X10_draw l D b z hsd hTr) hw_10_55 (hTr.1) rfl (by decide) rfl rfl (Nat.le_of_ble_eq_true rfl) ⟨Nat.zero_le _, Nat.zero_le _⟩ dX10_drawWeather_1 (pc' := 4) rfl ?_
  rintro _ h1 ⟨⟨rfl, hTr⟩, fr2⟩
  have hSt : StAt D h1 (s) (tn) (nI (e)) (sl) := hSt.fr (fun q g1 g2 => fr2 q (by omega))
  have hO : ∀ q, (¬ q = a) → h1 q = h q := fun q hq => (fr2 q (by omega)).trans (hO q hq)
  have hd10 := drN_lt (lcgN sd)
  refine g_istore_n C ([(2, .int (nI (drN (lcgN sd)))), (0, .ref (a)), (1, .int (nI (v)))]) dX10_drawWeather_4 rfl (by decide) rfl rfl ?_
  refine g_aload_n C 1 dX10_drawWeather_5 rfl rfl rfl ?_
  refine gf_10_15 C (hTr.1) (v := .ref (s)) rfl dX10_drawWeather_6 rfl ?_
  refine g_iload_n C 2 dX10_drawWeather_9 rfl rfl rfl ?_
  refine g_iconst C (v := 0) dX10_drawWeather_10 (by decide) rfl ?_
  refine g_callVi C (As := [.int (nI (v)), .int (0)]) (q := (RX9, TX9, 3)) (k_X9_tenthsFrom l D b z he hSt (v := v) (w := 0) (by omega) (by omega)) hw_10_75 (hSt.1) rfl (by decide) rfl rfl (Nat.le_of_ble_eq_true rfl) ⟨Nat.zero_le _, Nat.zero_le _⟩ dX10_drawWeather_11 (pc' := 14) rfl ?_
  rintro r3 h9 ⟨er, e9⟩
  subst h9; subst er
  have h10 := (htn (v * 3 + 0) (by omega)).2
  refine g_topi (y := nI (tN (v * 3 + 0))) ((htn _ (by omega)).1) ?_
  refine g_istore_n C ([(3, .int (nI (tN (v * 3 + 0)))), (2, .int (nI (drN (lcgN sd)))), (0, .ref (a)), (1, .int (nI (v)))]) dX10_drawWeather_14 rfl (by decide) rfl rfl ?_
  refine g_iload_n C 1 dX10_drawWeather_15 rfl rfl rfl ?_
  refine g_iload_n C 0 dX10_drawWeather_16 rfl rfl rfl ?_
  refine g_icmp_ge C dX10_drawWeather_17 (tgt := 22) (by decide) (pc' := 20) rfl ?_ ?_
  · intro c17
    replace c17 := (nI_leI (a := tN (v * 3 + 0)) (b := drN (lcgN sd)) (by omega) (by omega)).mp c17
    refine g_iload_n C 1 dX10_drawWeather_22 rfl rfl rfl ?_
    refine g_iload_n C 0 dX10_drawWeather_23 rfl rfl rfl ?_
    refine g_aload_n C 2 dX10_drawWeather_24 rfl rfl rfl ?_
    refine gf_10_15 C (hTr.1) (v := .ref (s)) rfl dX10_drawWeather_25 rfl ?_
    refine g_iload_n C 3 dX10_drawWeather_28 rfl rfl rfl ?_
    refine g_iconst C (v := 1) dX10_drawWeather_29 (by decide) rfl ?_
    refine g_callVi C (As := [.int (nI (v)), .int (1)]) (q := (RX9, TX9, 3)) (k_X9_tenthsFrom l D b z he hSt (v := v) (w := 1) (by omega) (by omega)) hw_10_75 (hSt.1) rfl (by decide) rfl rfl (Nat.le_of_ble_eq_true rfl) ⟨Nat.zero_le _, Nat.zero_le _⟩ dX10_drawWeather_30 (pc' := 33) rfl ?_
    rintro r4 h9 ⟨er, e9⟩
    subst h9; subst er
    have h10 := (htn (v * 3 + 1) (by omega)).2
    refine g_topi (y := nI (tN (v * 3 + 1))) ((htn _ (by omega)).1) ?_
    refine g_iadd C dX10_drawWeather_33 rfl ?_
    refine g_topi (y := nI (tN (v * 3 + 0) + tN (v * 3 + 1))) (nI_add _ _) ?_
    refine g_icmp_ge C dX10_drawWeather_34 (tgt := 41) (by decide) (pc' := 37) rfl ?_ ?_
    · intro c34
      replace c34 := (nI_leI (a := (tN (v * 3 + 0) + tN (v * 3 + 1))) (b := drN (lcgN sd)) (by omega) (by omega)).mp c34
      refine g_iconst C (v := 2) dX10_drawWeather_41 (by decide) rfl ?_
      exact ret _ _ _ _ dX10_drawWeather_42 rfl (⟨⟨congrArg nI (((if_neg (Nat.not_lt.mpr c17)).trans (if_neg (Nat.not_lt.mpr c34))).symm), hTr⟩, hO⟩)
    · intro c34
      replace c34 := (not_congr (nI_leI (a := (tN (v * 3 + 0) + tN (v * 3 + 1))) (b := drN (lcgN sd)) (by omega) (by omega))).mp c34
      refine g_iconst C (v := 1) dX10_drawWeather_37 (by decide) rfl ?_
      refine g_goto C dX10_drawWeather_38 (tgt := 42) (by decide) ?_
      exact ret _ _ _ _ dX10_drawWeather_42 rfl (⟨⟨congrArg nI (((if_neg (Nat.not_lt.mpr c17)).trans (if_pos (Nat.not_le.mp c34))).symm), hTr⟩, hO⟩)
  · intro c17
    replace c17 := (not_congr (nI_leI (a := tN (v * 3 + 0)) (b := drN (lcgN sd)) (by omega) (by omega))).mp c17
    refine g_iconst C (v := 0) dX10_drawWeather_20 (by decide) rfl ?_
    exact ret _ _ _ _ dX10_drawWeather_21 rfl (⟨⟨congrArg nI (if_pos (Nat.not_le.mp c17)).symm, hTr⟩, hO⟩)
set_option maxHeartbeats 4000000 in
set_option maxRecDepth 100000 in
theorem k_X10_tellOne (l : Launch) (D : va_G) (b z : Nat) {h : qH} {a s : Nat} {dr : Nat → Int32} {dN : Nat → Nat} (hdr : DrN dr dN) {da sd : Nat} (hda : da < 5) {wt pd sp : Int32} (hsd : sd < 2147483648) (hTr : TrAt D h a s dr (nI da) (lN sd) wt pd sp) {tn : Nat → Int32} {tN : Nat → Nat} (htn : TnN tn tN) {e : Nat} (he2 : 1 ≤ e ∧ e ≤ 4) {sl : Int32} {sN : Nat} (hsN : sl = nI sN) (hs9 : sN < 10) (hSt : StAt D h s tn (nI e) sl) {rd : Nat → Int32} {dn : Int32} {wn : Nat} (hwn : wn < 3) (hOK : OlOK D h (a + 1) s tn sl rd dn wn) (hds : s + 2 ≤ a ∨ a + 36 ≤ s) : qMv l D b yX10_tellOne cX10_tellOne 3 5 114 [.ref (a)] h z (fun h' => (∃ dr1 dN1 da1 sd1, exS tN (dN, da, sd) e = (dN1, da1, sd1) ∧ DrN dr1 dN1 ∧ ((drN (lcgN sd1) < sN ∧ TrAt D h' a s dr1 (nI da1) (lN (lcgN sd1)) wt pd (sp + 1) ∧ ∃ rd1, OlOK D h' (a + 1) s tn sl rd1 dn wn ∧ ((¬ allF (F_step tn sl (upd rd e (nI ((dN1 e + 1) % 3)))) wn ≤ 0 ∧ rd1 = upd rd e (nI ((dN1 e + 1) % 3))) ∨ (allF (F_step tn sl (upd rd e (nI ((dN1 e + 1) % 3)))) wn ≤ 0 ∧ rd1 = rd))) ∨ (¬ drN (lcgN sd1) < sN ∧ TrAt D h' a s dr1 (nI da1) (lN (lcgN sd1)) wt pd (sp + 0) ∧ ∃ rd1, OlOK D h' (a + 1) s tn sl rd1 dn wn ∧ ((¬ allF (F_step tn sl (upd rd e (nI (dN1 e)))) wn ≤ 0 ∧ rd1 = upd rd e (nI (dN1 e))) ∨ (allF (F_step tn sl (upd rd e (nI (dN1 e)))) wn ≤ 0 ∧ rd1 = rd))))) ∧ ∀ q, (q < a ∨ a + 36 ≤ q) → h' q = h q) := by
  refine q_v (L := [(0, .ref (a))]) (own := RX10) (by decide) rfl (Nat.le_of_ble_eq_true rfl) rfl ?_
  intro X C ret
  have hO : ∀ q, (q < a ∨ a + 36 ≤ q) → h q = h q := fun _ _ => rfl
  have he : e < 10 := by omega
  refine g_iconst C (v := 0) dX10_tellOne_0 (by decide) rfl ?_
  refine g_istore_n C ([(1, .int (0)), (0, .ref (a))]) dX10_tellOne_1 rfl (by decide) rfl rfl ?_
  refine g_iconst C (v := 1) dX10_tellOne_2 (by decide) rfl ?_
  refine g_istore_n C ([(2, .int (1)), (1, .int (0)), (0, .ref (a))]) dX10_tellOne_3 rfl (by decide) rfl rfl ?_
  have loop4 : ∀ (N : Nat) (k : Nat) (h1 : qH) (dr1 : Nat → Int32) (dN1 : Nat → Nat) (da1 : Nat) (sd1 : Nat) (r : Nat), e - k < N → (k ≤ e) → (TrAt D h1 a s dr1 (nI da1) (lN sd1) wt pd sp) → (StAt D h1 s tn (nI e) sl) → (OlOK D h1 (a + 1) s tn sl rd dn wn) → (∀ q, (q < a ∨ a + 36 ≤ q) → h1 q = h q) → (exS tN (dN, da, sd) k = (dN1, da1, sd1)) → (DrN dr1 dN1) → (sd1 < 2147483648) → (da1 < 5) → (k = 0 ∨ r = dN1 k) → qG X 0 0 z h1 4 [(2, .int (nI (k + 1))), (1, .int (nI (r))), (0, .ref (a))] [] := by
    intro N
    induction N with
    | zero => intro k h1 dr1 dN1 da1 sd1 r hm; exact absurd hm (Nat.not_lt_zero _)
    | succ N ih4 =>
      intro k h1 dr1 dN1 da1 sd1 r hm hk hTr hSt hOK hO hex hdr hsd hda hr
      refine g_iload_n C 0 dX10_tellOne_4 rfl rfl rfl ?_
      refine g_iconst C (v := 4) dX10_tellOne_5 (by decide) rfl ?_
      refine g_icmp_gt C dX10_tellOne_6 (tgt := 64) (by decide) (pc' := 9) rfl ?_ ?_
      · intro c6
        replace c6 := (nI_ltI (a := 4) (b := k + 1) (by omega) (by omega)).mp c6
        have hke : k = e := by omega
        have hre : r = dN1 e := by rcases hr with g | g; omega; rw [g, hke]
        have hr3 : r < 3 := by rw [hre]; exact (hdr e (by omega)).2
        refine g_aload_n C 2 dX10_tellOne_64 rfl rfl rfl ?_
        refine g_callVi C (As := []) (q := (RX10, TX10, 8)) (k_X10_draw l D b z hsd hTr) hw_10_55 (hTr.1) rfl (by decide) rfl rfl (Nat.le_of_ble_eq_true rfl) ⟨Nat.zero_le _, Nat.zero_le _⟩ dX10_tellOne_65 (pc' := 68) rfl ?_
        rintro _ h1 ⟨⟨rfl, hTr⟩, fr2⟩
        have hSt : StAt D h1 (s) (tn) (nI (e)) (sl) := hSt.fr (fun q g1 g2 => fr2 q (by omega))
        have hOK : OlOK D h1 (a + 1) s tn sl rd dn wn := hOK.fr (fun q g1 g2 => fr2 q (by omega))
        have hO : ∀ q, (q < a ∨ a + 36 ≤ q) → h1 q = h q := fun q hq => (fr2 q (by omega)).trans (hO q hq)
        have hd10 := drN_lt (lcgN sd1)
        refine g_aload_n C 2 dX10_tellOne_68 rfl rfl rfl ?_
        refine gf_10_15 C (hTr.1) (v := .ref (s)) rfl dX10_tellOne_69 rfl ?_
        refine gf_10_59 C (hSt.1) (v := .int (sl)) rfl dX10_tellOne_72 rfl ?_
        refine g_topi (y := nI sN) hsN ?_
        refine g_icmp_ge C dX10_tellOne_75 (tgt := 82) (by decide) (pc' := 78) rfl ?_ ?_
        · intro c75
          replace c75 := (nI_leI (a := sN) (b := drN (lcgN sd1)) (by omega) (by omega)).mp c75
          refine g_iconst C (v := 0) dX10_tellOne_82 (by decide) rfl ?_
          refine g_istore_n C ([(2, .int (0)), (1, .int (nI (r))), (0, .ref (a))]) dX10_tellOne_83 rfl (by decide) rfl rfl ?_
          refine g_aload_n C 2 dX10_tellOne_84 rfl rfl rfl ?_
          refine g_dup C rfl dX10_tellOne_85 rfl ?_
          refine gf_10_43 C (hTr.1) (v := .int (sp)) rfl dX10_tellOne_86 rfl ?_
          refine g_iload_n C 0 dX10_tellOne_89 rfl rfl rfl ?_
          refine g_if_eq C dX10_tellOne_90 (tgt := 97) (by decide) (pc' := 93) rfl (fun _ => ?_) (fun c90 => absurd (by decide) c90)
          refine g_iconst C (v := 0) dX10_tellOne_97 (by decide) rfl ?_
          refine g_iadd C dX10_tellOne_98 rfl ?_
          refine pf_10_43 C (hTr.1) (v := .int ((sp) + (0))) rfl rfl (Nat.le_of_ble_eq_true rfl) dX10_tellOne_99 (pc' := 102) rfl (fun h3 e4 o5 => ?_)
          have hTr : TrAt D h3 (a) (s) (dr1) (nI (da1)) (lN (lcgN sd1)) (wt) (pd) ((sp) + (0)) := ⟨e4, (o5 _ (by omega)).trans hTr.2⟩
          have hSt : StAt D h3 (s) (tn) (nI (e)) (sl) := ⟨(o5 _ (by omega)).trans hSt.1, (o5 _ (by omega)).trans hSt.2⟩
          have hOK : OlOK D h3 (a + 1) s tn sl rd dn wn := hOK.fr (fun q g1 g2 => o5 q (by omega))
          have hO : ∀ q, (q < a ∨ a + 36 ≤ q) → h3 q = h q := fun q hq => (o5 q (by omega)).trans (hO q hq)
          refine g_aload_n C 2 dX10_tellOne_102 rfl rfl rfl ?_
          refine gf_10_19 C (hTr.1) (v := .ref (a + 1)) rfl dX10_tellOne_103 rfl ?_
          refine g_iload_n C 0 dX10_tellOne_106 rfl rfl rfl ?_
          refine g_if_eq C dX10_tellOne_107 (tgt := 118) (by decide) (pc' := 110) rfl (fun _ => ?_) (fun c107 => absurd (by decide) c107)
          refine g_iload_n C 1 dX10_tellOne_118 rfl rfl rfl ?_
          refine g_callVi C (As := [.int (nI (r))]) (q := (RX7, TX7, 8)) (k_X7_tell l D b z hwn hOK.any he2 hSt (by omega) (nI (r))) hw_10_62 (hOK.1.1) rfl (by decide) rfl rfl (Nat.le_of_ble_eq_true rfl) ⟨Nat.zero_le _, Nat.zero_le _⟩ dX10_tellOne_119 (pc' := 122) rfl ?_
          rintro rr h6 ⟨⟨hg, rfl, hOK⟩ | ⟨hg, rfl, hOK⟩, fr7⟩
          · skip
            have hTr : TrAt D h6 (a) (s) (dr1) (nI (da1)) (lN (lcgN sd1)) (wt) (pd) ((sp) + (0)) := hTr.fr (fun q g => fr7 q (by omega))
            have hSt : StAt D h6 (s) (tn) (nI (e)) (sl) := hSt.fr (fun q g1 g2 => fr7 q (by omega))
            have hO : ∀ q, (q < a ∨ a + 36 ≤ q) → h6 q = h q := fun q hq => (fr7 q (by omega)).trans (hO q hq)
            refine g_pop C rfl dX10_tellOne_122 rfl ?_
            exact ret _ _ _ dX10_tellOne_123 (⟨⟨dr1, dN1, da1, sd1, by rw [← hke]; exact hex, hdr, Or.inr ⟨Nat.not_lt.mpr c75, hTr, _, hOK, by rw [hre] at hg; first | exact Or.inl ⟨hg, rfl⟩ | (rw [hre]; exact Or.inl ⟨hg, rfl⟩)⟩⟩, hO⟩)
          · skip
            have hTr : TrAt D h6 (a) (s) (dr1) (nI (da1)) (lN (lcgN sd1)) (wt) (pd) ((sp) + (0)) := hTr.fr (fun q g => fr7 q (by omega))
            have hSt : StAt D h6 (s) (tn) (nI (e)) (sl) := hSt.fr (fun q g1 g2 => fr7 q (by omega))
            have hO : ∀ q, (q < a ∨ a + 36 ≤ q) → h6 q = h q := fun q hq => (fr7 q (by omega)).trans (hO q hq)
            refine g_pop C rfl dX10_tellOne_122 rfl ?_
            exact ret _ _ _ dX10_tellOne_123 (⟨⟨dr1, dN1, da1, sd1, by rw [← hke]; exact hex, hdr, Or.inr ⟨Nat.not_lt.mpr c75, hTr, _, hOK, by rw [hre] at hg; first | exact Or.inr ⟨hg, rfl⟩ | (rw [hre]; exact Or.inr ⟨hg, rfl⟩)⟩⟩, hO⟩)
        · intro c75
          replace c75 := (not_congr (nI_leI (a := sN) (b := drN (lcgN sd1)) (by omega) (by omega))).mp c75
          refine g_iconst C (v := 1) dX10_tellOne_78 (by decide) rfl ?_
          refine g_goto C dX10_tellOne_79 (tgt := 83) (by decide) ?_
          refine g_istore_n C ([(2, .int (1)), (1, .int (nI (r))), (0, .ref (a))]) dX10_tellOne_83 rfl (by decide) rfl rfl ?_
          refine g_aload_n C 2 dX10_tellOne_84 rfl rfl rfl ?_
          refine g_dup C rfl dX10_tellOne_85 rfl ?_
          refine gf_10_43 C (hTr.1) (v := .int (sp)) rfl dX10_tellOne_86 rfl ?_
          refine g_iload_n C 0 dX10_tellOne_89 rfl rfl rfl ?_
          refine g_if_eq C dX10_tellOne_90 (tgt := 97) (by decide) (pc' := 93) rfl (fun c90 => absurd c90 (by decide)) (fun _ => ?_)
          refine g_iconst C (v := 1) dX10_tellOne_93 (by decide) rfl ?_
          refine g_goto C dX10_tellOne_94 (tgt := 98) (by decide) ?_
          refine g_iadd C dX10_tellOne_98 rfl ?_
          refine pf_10_43 C (hTr.1) (v := .int ((sp) + (1))) rfl rfl (Nat.le_of_ble_eq_true rfl) dX10_tellOne_99 (pc' := 102) rfl (fun h8 e9 o10 => ?_)
          have hTr : TrAt D h8 (a) (s) (dr1) (nI (da1)) (lN (lcgN sd1)) (wt) (pd) ((sp) + (1)) := ⟨e9, (o10 _ (by omega)).trans hTr.2⟩
          have hSt : StAt D h8 (s) (tn) (nI (e)) (sl) := ⟨(o10 _ (by omega)).trans hSt.1, (o10 _ (by omega)).trans hSt.2⟩
          have hOK : OlOK D h8 (a + 1) s tn sl rd dn wn := hOK.fr (fun q g1 g2 => o10 q (by omega))
          have hO : ∀ q, (q < a ∨ a + 36 ≤ q) → h8 q = h q := fun q hq => (o10 q (by omega)).trans (hO q hq)
          refine g_aload_n C 2 dX10_tellOne_102 rfl rfl rfl ?_
          refine gf_10_19 C (hTr.1) (v := .ref (a + 1)) rfl dX10_tellOne_103 rfl ?_
          refine g_iload_n C 0 dX10_tellOne_106 rfl rfl rfl ?_
          refine g_if_eq C dX10_tellOne_107 (tgt := 118) (by decide) (pc' := 110) rfl (fun c107 => absurd c107 (by decide)) (fun _ => ?_)
          refine g_iload_n C 1 dX10_tellOne_110 rfl rfl rfl ?_
          refine g_iconst C (v := 1) dX10_tellOne_111 (by decide) rfl ?_
          refine g_iadd C dX10_tellOne_112 rfl ?_
          refine g_topi (y := nI (r + 1)) (nI_add _ _) ?_
          refine g_iconst C (v := 3) dX10_tellOne_113 (by decide) rfl ?_
          refine g_irem C dX10_tellOne_114 (by decide) rfl ?_
          refine g_topi (y := nI ((r + 1) % 3)) (rem_nI (a := r + 1) (d := 3) (by omega) (by decide) (by decide)) ?_
          refine g_goto C dX10_tellOne_115 (tgt := 119) (by decide) ?_
          refine g_callVi C (As := [.int (nI ((r + 1) % 3))]) (q := (RX7, TX7, 8)) (k_X7_tell l D b z hwn hOK.any he2 hSt (by omega) (nI ((r + 1) % 3))) hw_10_62 (hOK.1.1) rfl (by decide) rfl rfl (Nat.le_of_ble_eq_true rfl) ⟨Nat.zero_le _, Nat.zero_le _⟩ dX10_tellOne_119 (pc' := 122) rfl ?_
          rintro rr h11 ⟨⟨hg, rfl, hOK⟩ | ⟨hg, rfl, hOK⟩, fr12⟩
          · skip
            have hTr : TrAt D h11 (a) (s) (dr1) (nI (da1)) (lN (lcgN sd1)) (wt) (pd) ((sp) + (1)) := hTr.fr (fun q g => fr12 q (by omega))
            have hSt : StAt D h11 (s) (tn) (nI (e)) (sl) := hSt.fr (fun q g1 g2 => fr12 q (by omega))
            have hO : ∀ q, (q < a ∨ a + 36 ≤ q) → h11 q = h q := fun q hq => (fr12 q (by omega)).trans (hO q hq)
            refine g_pop C rfl dX10_tellOne_122 rfl ?_
            exact ret _ _ _ dX10_tellOne_123 (⟨⟨dr1, dN1, da1, sd1, by rw [← hke]; exact hex, hdr, Or.inl ⟨Nat.not_le.mp c75, hTr, _, hOK, by rw [hre] at hg; first | exact Or.inl ⟨hg, rfl⟩ | (rw [hre]; exact Or.inl ⟨hg, rfl⟩)⟩⟩, hO⟩)
          · skip
            have hTr : TrAt D h11 (a) (s) (dr1) (nI (da1)) (lN (lcgN sd1)) (wt) (pd) ((sp) + (1)) := hTr.fr (fun q g => fr12 q (by omega))
            have hSt : StAt D h11 (s) (tn) (nI (e)) (sl) := hSt.fr (fun q g1 g2 => fr12 q (by omega))
            have hO : ∀ q, (q < a ∨ a + 36 ≤ q) → h11 q = h q := fun q hq => (fr12 q (by omega)).trans (hO q hq)
            refine g_pop C rfl dX10_tellOne_122 rfl ?_
            exact ret _ _ _ dX10_tellOne_123 (⟨⟨dr1, dN1, da1, sd1, by rw [← hke]; exact hex, hdr, Or.inl ⟨Nat.not_le.mp c75, hTr, _, hOK, by rw [hre] at hg; first | exact Or.inr ⟨hg, rfl⟩ | (rw [hre]; exact Or.inr ⟨hg, rfl⟩)⟩⟩, hO⟩)
      · intro c6
        replace c6 := (not_congr (nI_ltI (a := 4) (b := k + 1) (by omega) (by omega))).mp c6
        refine g_iload_n C 0 dX10_tellOne_9 rfl rfl rfl ?_
        refine g_aload_n C 2 dX10_tellOne_10 rfl rfl rfl ?_
        refine gf_10_15 C (hTr.1) (v := .ref (s)) rfl dX10_tellOne_11 rfl ?_
        refine gf_10_46 C (hSt.1) (v := .int (nI (e))) rfl dX10_tellOne_14 rfl ?_
        refine g_icmp_gt C dX10_tellOne_17 (tgt := 64) (by decide) (pc' := 20) rfl ?_ ?_
        · intro c17
          replace c17 := (nI_ltI (a := e) (b := k + 1) (by omega) (by omega)).mp c17
          have hke : k = e := by omega
          have hre : r = dN1 e := by rcases hr with g | g; omega; rw [g, hke]
          have hr3 : r < 3 := by rw [hre]; exact (hdr e (by omega)).2
          refine g_aload_n C 2 dX10_tellOne_64 rfl rfl rfl ?_
          refine g_callVi C (As := []) (q := (RX10, TX10, 8)) (k_X10_draw l D b z hsd hTr) hw_10_55 (hTr.1) rfl (by decide) rfl rfl (Nat.le_of_ble_eq_true rfl) ⟨Nat.zero_le _, Nat.zero_le _⟩ dX10_tellOne_65 (pc' := 68) rfl ?_
          rintro _ h13 ⟨⟨rfl, hTr⟩, fr14⟩
          have hSt : StAt D h13 (s) (tn) (nI (e)) (sl) := hSt.fr (fun q g1 g2 => fr14 q (by omega))
          have hOK : OlOK D h13 (a + 1) s tn sl rd dn wn := hOK.fr (fun q g1 g2 => fr14 q (by omega))
          have hO : ∀ q, (q < a ∨ a + 36 ≤ q) → h13 q = h q := fun q hq => (fr14 q (by omega)).trans (hO q hq)
          have hd10 := drN_lt (lcgN sd1)
          refine g_aload_n C 2 dX10_tellOne_68 rfl rfl rfl ?_
          refine gf_10_15 C (hTr.1) (v := .ref (s)) rfl dX10_tellOne_69 rfl ?_
          refine gf_10_59 C (hSt.1) (v := .int (sl)) rfl dX10_tellOne_72 rfl ?_
          refine g_topi (y := nI sN) hsN ?_
          refine g_icmp_ge C dX10_tellOne_75 (tgt := 82) (by decide) (pc' := 78) rfl ?_ ?_
          · intro c75
            replace c75 := (nI_leI (a := sN) (b := drN (lcgN sd1)) (by omega) (by omega)).mp c75
            refine g_iconst C (v := 0) dX10_tellOne_82 (by decide) rfl ?_
            refine g_istore_n C ([(2, .int (0)), (1, .int (nI (r))), (0, .ref (a))]) dX10_tellOne_83 rfl (by decide) rfl rfl ?_
            refine g_aload_n C 2 dX10_tellOne_84 rfl rfl rfl ?_
            refine g_dup C rfl dX10_tellOne_85 rfl ?_
            refine gf_10_43 C (hTr.1) (v := .int (sp)) rfl dX10_tellOne_86 rfl ?_
            refine g_iload_n C 0 dX10_tellOne_89 rfl rfl rfl ?_
            refine g_if_eq C dX10_tellOne_90 (tgt := 97) (by decide) (pc' := 93) rfl (fun _ => ?_) (fun c90 => absurd (by decide) c90)
            refine g_iconst C (v := 0) dX10_tellOne_97 (by decide) rfl ?_
            refine g_iadd C dX10_tellOne_98 rfl ?_
            refine pf_10_43 C (hTr.1) (v := .int ((sp) + (0))) rfl rfl (Nat.le_of_ble_eq_true rfl) dX10_tellOne_99 (pc' := 102) rfl (fun h15 e16 o17 => ?_)
            have hTr : TrAt D h15 (a) (s) (dr1) (nI (da1)) (lN (lcgN sd1)) (wt) (pd) ((sp) + (0)) := ⟨e16, (o17 _ (by omega)).trans hTr.2⟩
            have hSt : StAt D h15 (s) (tn) (nI (e)) (sl) := ⟨(o17 _ (by omega)).trans hSt.1, (o17 _ (by omega)).trans hSt.2⟩
            have hOK : OlOK D h15 (a + 1) s tn sl rd dn wn := hOK.fr (fun q g1 g2 => o17 q (by omega))
            have hO : ∀ q, (q < a ∨ a + 36 ≤ q) → h15 q = h q := fun q hq => (o17 q (by omega)).trans (hO q hq)
            refine g_aload_n C 2 dX10_tellOne_102 rfl rfl rfl ?_
            refine gf_10_19 C (hTr.1) (v := .ref (a + 1)) rfl dX10_tellOne_103 rfl ?_
            refine g_iload_n C 0 dX10_tellOne_106 rfl rfl rfl ?_
            refine g_if_eq C dX10_tellOne_107 (tgt := 118) (by decide) (pc' := 110) rfl (fun _ => ?_) (fun c107 => absurd (by decide) c107)
            refine g_iload_n C 1 dX10_tellOne_118 rfl rfl rfl ?_
            refine g_callVi C (As := [.int (nI (r))]) (q := (RX7, TX7, 8)) (k_X7_tell l D b z hwn hOK.any he2 hSt (by omega) (nI (r))) hw_10_62 (hOK.1.1) rfl (by decide) rfl rfl (Nat.le_of_ble_eq_true rfl) ⟨Nat.zero_le _, Nat.zero_le _⟩ dX10_tellOne_119 (pc' := 122) rfl ?_
            rintro rr h18 ⟨⟨hg, rfl, hOK⟩ | ⟨hg, rfl, hOK⟩, fr19⟩
            · skip
              have hTr : TrAt D h18 (a) (s) (dr1) (nI (da1)) (lN (lcgN sd1)) (wt) (pd) ((sp) + (0)) := hTr.fr (fun q g => fr19 q (by omega))
              have hSt : StAt D h18 (s) (tn) (nI (e)) (sl) := hSt.fr (fun q g1 g2 => fr19 q (by omega))
              have hO : ∀ q, (q < a ∨ a + 36 ≤ q) → h18 q = h q := fun q hq => (fr19 q (by omega)).trans (hO q hq)
              refine g_pop C rfl dX10_tellOne_122 rfl ?_
              exact ret _ _ _ dX10_tellOne_123 (⟨⟨dr1, dN1, da1, sd1, by rw [← hke]; exact hex, hdr, Or.inr ⟨Nat.not_lt.mpr c75, hTr, _, hOK, by rw [hre] at hg; first | exact Or.inl ⟨hg, rfl⟩ | (rw [hre]; exact Or.inl ⟨hg, rfl⟩)⟩⟩, hO⟩)
            · skip
              have hTr : TrAt D h18 (a) (s) (dr1) (nI (da1)) (lN (lcgN sd1)) (wt) (pd) ((sp) + (0)) := hTr.fr (fun q g => fr19 q (by omega))
              have hSt : StAt D h18 (s) (tn) (nI (e)) (sl) := hSt.fr (fun q g1 g2 => fr19 q (by omega))
              have hO : ∀ q, (q < a ∨ a + 36 ≤ q) → h18 q = h q := fun q hq => (fr19 q (by omega)).trans (hO q hq)
              refine g_pop C rfl dX10_tellOne_122 rfl ?_
              exact ret _ _ _ dX10_tellOne_123 (⟨⟨dr1, dN1, da1, sd1, by rw [← hke]; exact hex, hdr, Or.inr ⟨Nat.not_lt.mpr c75, hTr, _, hOK, by rw [hre] at hg; first | exact Or.inr ⟨hg, rfl⟩ | (rw [hre]; exact Or.inr ⟨hg, rfl⟩)⟩⟩, hO⟩)
          · intro c75
            replace c75 := (not_congr (nI_leI (a := sN) (b := drN (lcgN sd1)) (by omega) (by omega))).mp c75
            refine g_iconst C (v := 1) dX10_tellOne_78 (by decide) rfl ?_
            refine g_goto C dX10_tellOne_79 (tgt := 83) (by decide) ?_
            refine g_istore_n C ([(2, .int (1)), (1, .int (nI (r))), (0, .ref (a))]) dX10_tellOne_83 rfl (by decide) rfl rfl ?_
            refine g_aload_n C 2 dX10_tellOne_84 rfl rfl rfl ?_
            refine g_dup C rfl dX10_tellOne_85 rfl ?_
            refine gf_10_43 C (hTr.1) (v := .int (sp)) rfl dX10_tellOne_86 rfl ?_
            refine g_iload_n C 0 dX10_tellOne_89 rfl rfl rfl ?_
            refine g_if_eq C dX10_tellOne_90 (tgt := 97) (by decide) (pc' := 93) rfl (fun c90 => absurd c90 (by decide)) (fun _ => ?_)
            refine g_iconst C (v := 1) dX10_tellOne_93 (by decide) rfl ?_
            refine g_goto C dX10_tellOne_94 (tgt := 98) (by decide) ?_
            refine g_iadd C dX10_tellOne_98 rfl ?_
            refine pf_10_43 C (hTr.1) (v := .int ((sp) + (1))) rfl rfl (Nat.le_of_ble_eq_true rfl) dX10_tellOne_99 (pc' := 102) rfl (fun h20 e21 o22 => ?_)
            have hTr : TrAt D h20 (a) (s) (dr1) (nI (da1)) (lN (lcgN sd1)) (wt) (pd) ((sp) + (1)) := ⟨e21, (o22 _ (by omega)).trans hTr.2⟩
            have hSt : StAt D h20 (s) (tn) (nI (e)) (sl) := ⟨(o22 _ (by omega)).trans hSt.1, (o22 _ (by omega)).trans hSt.2⟩
            have hOK : OlOK D h20 (a + 1) s tn sl rd dn wn := hOK.fr (fun q g1 g2 => o22 q (by omega))
            have hO : ∀ q, (q < a ∨ a + 36 ≤ q) → h20 q = h q := fun q hq => (o22 q (by omega)).trans (hO q hq)
            refine g_aload_n C 2 dX10_tellOne_102 rfl rfl rfl ?_
            refine gf_10_19 C (hTr.1) (v := .ref (a + 1)) rfl dX10_tellOne_103 rfl ?_
            refine g_iload_n C 0 dX10_tellOne_106 rfl rfl rfl ?_
            refine g_if_eq C dX10_tellOne_107 (tgt := 118) (by decide) (pc' := 110) rfl (fun c107 => absurd c107 (by decide)) (fun _ => ?_)
            refine g_iload_n C 1 dX10_tellOne_110 rfl rfl rfl ?_
            refine g_iconst C (v := 1) dX10_tellOne_111 (by decide) rfl ?_
            refine g_iadd C dX10_tellOne_112 rfl ?_
            refine g_topi (y := nI (r + 1)) (nI_add _ _) ?_
            refine g_iconst C (v := 3) dX10_tellOne_113 (by decide) rfl ?_
            refine g_irem C dX10_tellOne_114 (by decide) rfl ?_
            refine g_topi (y := nI ((r + 1) % 3)) (rem_nI (a := r + 1) (d := 3) (by omega) (by decide) (by decide)) ?_
            refine g_goto C dX10_tellOne_115 (tgt := 119) (by decide) ?_
            refine g_callVi C (As := [.int (nI ((r + 1) % 3))]) (q := (RX7, TX7, 8)) (k_X7_tell l D b z hwn hOK.any he2 hSt (by omega) (nI ((r + 1) % 3))) hw_10_62 (hOK.1.1) rfl (by decide) rfl rfl (Nat.le_of_ble_eq_true rfl) ⟨Nat.zero_le _, Nat.zero_le _⟩ dX10_tellOne_119 (pc' := 122) rfl ?_
            rintro rr h23 ⟨⟨hg, rfl, hOK⟩ | ⟨hg, rfl, hOK⟩, fr24⟩
            · skip
              have hTr : TrAt D h23 (a) (s) (dr1) (nI (da1)) (lN (lcgN sd1)) (wt) (pd) ((sp) + (1)) := hTr.fr (fun q g => fr24 q (by omega))
              have hSt : StAt D h23 (s) (tn) (nI (e)) (sl) := hSt.fr (fun q g1 g2 => fr24 q (by omega))
              have hO : ∀ q, (q < a ∨ a + 36 ≤ q) → h23 q = h q := fun q hq => (fr24 q (by omega)).trans (hO q hq)
              refine g_pop C rfl dX10_tellOne_122 rfl ?_
              exact ret _ _ _ dX10_tellOne_123 (⟨⟨dr1, dN1, da1, sd1, by rw [← hke]; exact hex, hdr, Or.inl ⟨Nat.not_le.mp c75, hTr, _, hOK, by rw [hre] at hg; first | exact Or.inl ⟨hg, rfl⟩ | (rw [hre]; exact Or.inl ⟨hg, rfl⟩)⟩⟩, hO⟩)
            · skip
              have hTr : TrAt D h23 (a) (s) (dr1) (nI (da1)) (lN (lcgN sd1)) (wt) (pd) ((sp) + (1)) := hTr.fr (fun q g => fr24 q (by omega))
              have hSt : StAt D h23 (s) (tn) (nI (e)) (sl) := hSt.fr (fun q g1 g2 => fr24 q (by omega))
              have hO : ∀ q, (q < a ∨ a + 36 ≤ q) → h23 q = h q := fun q hq => (fr24 q (by omega)).trans (hO q hq)
              refine g_pop C rfl dX10_tellOne_122 rfl ?_
              exact ret _ _ _ dX10_tellOne_123 (⟨⟨dr1, dN1, da1, sd1, by rw [← hke]; exact hex, hdr, Or.inl ⟨Nat.not_le.mp c75, hTr, _, hOK, by rw [hre] at hg; first | exact Or.inr ⟨hg, rfl⟩ | (rw [hre]; exact Or.inr ⟨hg, rfl⟩)⟩⟩, hO⟩)
        · intro c17
          replace c17 := (not_congr (nI_ltI (a := e) (b := k + 1) (by omega) (by omega))).mp c17
          refine g_iload_n C 0 dX10_tellOne_20 rfl rfl rfl ?_
          refine g_aload_n C 2 dX10_tellOne_21 rfl rfl rfl ?_
          refine gf_10_29 C (hTr.1) (v := .int (nI (da1))) rfl dX10_tellOne_22 rfl ?_
          refine g_icmp_le C dX10_tellOne_25 (tgt := 51) (by decide) (pc' := 28) rfl ?_ ?_
          · intro c25
            replace c25 := (nI_leI (a := k + 1) (b := da1) (by omega) (by omega)).mp c25
            refine g_aload_n C 2 dX10_tellOne_51 rfl rfl rfl ?_
            refine gf_10_9 C (hTr.1) (v := .ref (a + 35)) rfl dX10_tellOne_52 rfl ?_
            refine g_iload_n C 0 dX10_tellOne_55 rfl rfl rfl ?_
            refine g_iald' C (hTr.2) (j := k + 1) rfl (by omega) (by decide) dX10_tellOne_56 rfl ?_
            refine g_topi (y := nI (dN1 (k + 1))) ((hdr _ (by omega)).1) ?_
            refine g_istore_n C ([(1, .int (nI (dN1 (k + 1)))), (2, .int (nI (k + 1))), (0, .ref (a))]) dX10_tellOne_57 rfl (by decide) rfl rfl ?_
            refine g_iinc C (v := nI (k + 1 + 1)) 1 ([(2, .int (nI (k + 1 + 1))), (1, .int (nI (dN1 (k + 1)))), (0, .ref (a))]) dX10_tellOne_58 rfl (nI_1 _) (by decide) rfl rfl ?_
            refine g_goto C dX10_tellOne_61 (tgt := 4) (by decide) ?_
            exact ih4 (k + 1) (h1) (dr1) (dN1) (da1) (sd1) (dN1 (k + 1)) (by omega) (by omega) (hTr) (hSt) (hOK) (hO) (by simp only [exS, hex, if_pos c25]) (hdr) (hsd) (hda) (Or.inr rfl)
          · intro c25
            replace c25 := (not_congr (nI_leI (a := k + 1) (b := da1) (by omega) (by omega))).mp c25
            refine g_aload_n C 2 dX10_tellOne_28 rfl rfl rfl ?_
            refine gf_10_9 C (hTr.1) (v := .ref (a + 35)) rfl dX10_tellOne_29 rfl ?_
            refine g_iload_n C 0 dX10_tellOne_32 rfl rfl rfl ?_
            refine g_aload_n C 2 dX10_tellOne_33 rfl rfl rfl ?_
            refine g_aload_n C 2 dX10_tellOne_34 rfl rfl rfl ?_
            refine gf_10_9 C (hTr.1) (v := .ref (a + 35)) rfl dX10_tellOne_35 rfl ?_
            refine g_iload_n C 0 dX10_tellOne_38 rfl rfl rfl ?_
            refine g_iconst C (v := 1) dX10_tellOne_39 (by decide) rfl ?_
            refine g_isub C dX10_tellOne_40 rfl ?_
            refine g_topi (y := nI k) (nI_sub' (a := k + 1) (b := 1) (by omega)) ?_
            refine g_iald' C (hTr.2) (j := k) rfl (by omega) (by decide) dX10_tellOne_41 rfl ?_
            refine g_topi (y := nI (dN1 (k))) ((hdr _ (by omega)).1) ?_
            refine g_callVi C (As := [.int (nI (dN1 (k)))]) (q := (RX10, TX10, 8)) (k_X10_drawWeather l D b z hsd hTr htn he hSt (by omega) (v := dN1 (k)) (hdr _ (by omega)).2) hw_10_51 (hTr.1) rfl (by decide) rfl rfl (Nat.le_of_ble_eq_true rfl) ⟨Nat.zero_le _, Nat.zero_le _⟩ dX10_tellOne_42 (pc' := 45) rfl ?_
            rintro _ h25 ⟨⟨rfl, hTr⟩, fr26⟩
            have hSt : StAt D h25 (s) (tn) (nI (e)) (sl) := hSt.fr (fun q g1 g2 => fr26 q (by omega))
            have hOK : OlOK D h25 (a + 1) s tn sl rd dn wn := hOK.fr (fun q g1 g2 => fr26 q (by omega))
            have hO : ∀ q, (q < a ∨ a + 36 ≤ q) → h25 q = h q := fun q hq => (fr26 q (by omega)).trans (hO q hq)
            refine g_iast' C (hTr.2) (j := k + 1) rfl (by omega) (by decide) dX10_tellOne_45 (pc' := 46) rfl (fun h27 e28 o29 => ?_)
            have hTr : TrAt D h27 (a) (s) (upd (dr1) (k + 1) (nI (dwN tN (dN1 k) (drN (lcgN sd1))))) (nI (da1)) (lN (lcgN sd1)) (wt) (pd) (sp) := ⟨(o29 _ (by omega)).trans hTr.1, e28⟩
            have hSt : StAt D h27 (s) (tn) (nI (e)) (sl) := ⟨(o29 _ (by omega)).trans hSt.1, (o29 _ (by omega)).trans hSt.2⟩
            have hOK : OlOK D h27 (a + 1) s tn sl rd dn wn := hOK.fr (fun q g1 g2 => o29 q (by omega))
            have hO : ∀ q, (q < a ∨ a + 36 ≤ q) → h27 q = h q := fun q hq => (o29 q (by omega)).trans (hO q hq)
            refine g_aload_n C 2 dX10_tellOne_46 rfl rfl rfl ?_
            refine g_iload_n C 0 dX10_tellOne_47 rfl rfl rfl ?_
            refine pf_10_29 C (hTr.1) (v := .int (nI (k + 1))) rfl rfl (Nat.le_of_ble_eq_true rfl) dX10_tellOne_48 (pc' := 51) rfl (fun h30 e31 o32 => ?_)
            have hTr : TrAt D h30 (a) (s) (upd (dr1) (k + 1) (nI (dwN tN (dN1 k) (drN (lcgN sd1))))) (nI (k + 1)) (lN (lcgN sd1)) (wt) (pd) (sp) := ⟨e31, (o32 _ (by omega)).trans hTr.2⟩
            have hSt : StAt D h30 (s) (tn) (nI (e)) (sl) := ⟨(o32 _ (by omega)).trans hSt.1, (o32 _ (by omega)).trans hSt.2⟩
            have hOK : OlOK D h30 (a + 1) s tn sl rd dn wn := hOK.fr (fun q g1 g2 => o32 q (by omega))
            have hO : ∀ q, (q < a ∨ a + 36 ≤ q) → h30 q = h q := fun q hq => (o32 q (by omega)).trans (hO q hq)
            refine g_aload_n C 2 dX10_tellOne_51 rfl rfl rfl ?_
            refine gf_10_9 C (hTr.1) (v := .ref (a + 35)) rfl dX10_tellOne_52 rfl ?_
            refine g_iload_n C 0 dX10_tellOne_55 rfl rfl rfl ?_
            refine g_iald' C (hTr.2) (j := k + 1) rfl (by omega) (by decide) dX10_tellOne_56 rfl ?_
            refine g_topi (y := nI (dwN tN (dN1 k) (drN (lcgN sd1)))) (pk_us) ?_
            refine g_istore_n C ([(1, .int (nI (dwN tN (dN1 k) (drN (lcgN sd1))))), (2, .int (nI (k + 1))), (0, .ref (a))]) dX10_tellOne_57 rfl (by decide) rfl rfl ?_
            refine g_iinc C (v := nI (k + 1 + 1)) 1 ([(2, .int (nI (k + 1 + 1))), (1, .int (nI (dwN tN (dN1 k) (drN (lcgN sd1))))), (0, .ref (a))]) dX10_tellOne_58 rfl (nI_1 _) (by decide) rfl rfl ?_
            refine g_goto C dX10_tellOne_61 (tgt := 4) (by decide) ?_
            exact ih4 (k + 1) (h30) (upd (dr1) (k + 1) (nI (dwN tN (dN1 k) (drN (lcgN sd1))))) (va_up dN1 (k + 1) (dwN tN (dN1 k) (drN (lcgN sd1)))) (k + 1) (lcgN sd1) (dwN tN (dN1 k) (drN (lcgN sd1))) (by omega) (by omega) (hTr) (hSt) (hOK) (hO) (by simp only [exS, hex, if_neg c25]) (hdr.up (dwN_lt _ _ _)) (lcgN_lt _) (by omega) (Or.inr (if_pos rfl).symm)
  exact loop4 _ (0) (h) (dr) (dN) (da) (sd) (0) (Nat.lt_succ_self _) (by omega) (hTr) (hSt) (hOK) (hO) (rfl) (hdr) (hsd) (hda) (Or.inl rfl)
def PeAt (D : va_G) (h : qH) (pp np : Nat) (qa kd : Nat → Nat) (co lo pa : Nat → Int32) : Prop := np ≤ 4 ∧ (∃ pf, h pp = some (cQ D 4 pf) ∧ (∀ i, i < np → pf i = some (qa i)) ∧ ∀ i, np ≤ i → i < 4 → pf i = none) ∧ ∀ i, i < np → kd i < 5 ∧ KpAt h (qa i) (kci (kd i)) (co i) (lo i) (pa i)
theorem PeAt.fr {D : va_G} {h h1 : qH} {pp np : Nat} {qa kd : Nat → Nat} {co lo pa : Nat → Int32} (H : PeAt D h pp np qa kd co lo pa) (o : ∀ q, (q = pp ∨ ∃ i, i < np ∧ q = qa i) → h1 q = h q) : PeAt D h1 pp np qa kd co lo pa := by
  obtain ⟨h1', ⟨pf, h2, h3⟩, h4⟩ := H
  exact ⟨h1', ⟨pf, (o _ (Or.inl rfl)).trans h2, h3⟩, fun i hi => ⟨(h4 i hi).1, (o _ (Or.inr ⟨i, hi, rfl⟩)).trans (h4 i hi).2⟩⟩
noncomputable def payV (P : Prop) (c t f : Int32) : Int32 := @ite _ P (Classical.propDecidable P) c (if f = 1 then t else 0)
theorem payV_of {P : Prop} {c t f r : Int32} (h : (P ∧ r = c) ∨ (¬ P ∧ r = (if f = 1 then t else 0))) : r = payV P c t f := by
  unfold payV
  rcases h with ⟨p, e⟩ | ⟨p, e⟩
  · rw [if_pos p]; exact e
  · rw [if_neg p]; exact e
noncomputable def psF (np : Nat) (cov : Nat → Prop) (co lo : Nat → Int32) (f pd : Int32) : Nat → Int32
  | 0 => pd
  | i + 1 => psF np cov co lo f pd i + (if i < np then payV (cov i) (co i) (lo i) f else 0)
set_option maxHeartbeats 4000000 in
set_option maxRecDepth 100000 in
theorem k_X10_passOne (l : Launch) (D : va_G) (b z : Nat) {h : qH} {a s : Nat} {dr : Nat → Int32} {dN : Nat → Nat} (hdr : DrN dr dN) {da : Nat} (hda : 1 ≤ da ∧ da < 5) {sd : Int64} {wt pd sp : Int32} (hTr : TrAt D h a s dr (nI da) sd wt pd sp) {tn : Nat → Int32} {e : Nat} (he : e < 10) {sl : Int32} (hSt : StAt D h s tn (nI e) sl) {rd : Nat → Int32} {dn : Int32} {wn : Nat} (hwn : wn < 3) (hOK : OlOK D h (a + 1) s tn sl rd dn wn) (hds : s + 2 ≤ a ∨ a + 36 ≤ s) {pp np : Nat} {qa kd : Nat → Nat} {co lo pa : Nat → Int32} (hPe : PeAt D h pp np qa kd co lo pa) (hpp : pp < a ∨ a + 36 ≤ pp) (hqa : ∀ i, i < np → (qa i < a ∨ a + 36 ≤ qa i)) : qMv l D b yX10_passOne cX10_passOne 5 5 113 [.ref (a), .ref (pp)] h z (fun h' => (∃ dr' rd', TrAt D h' a s dr' (nI (da - 1)) sd (wt + (if dN 1 = 1 then 1 else 0)) (psF np (fun i => covQ (kd i) rd (F_step tn sl rd) wn (co i) (lo i)) co lo (nI (dN 1)) pd (4)) sp ∧ (∀ j, j < 5 → dr' j = dr (if j < 4 then j + 1 else j)) ∧ OlOK D h' (a + 1) s tn sl rd' (dn + 1) (dN 1) ∧ rd' 1 = rd 2 ∧ rd' 2 = rd 3 ∧ rd' 3 = rd 4 ∧ rd' 4 = -1) ∧ ∀ q, (q < a ∨ a + 36 ≤ q) → h' q = h q) := by
  refine q_v (L := [(0, .ref (a)), (1, .ref (pp))]) (own := RX10) (by decide) rfl (Nat.le_of_ble_eq_true rfl) rfl ?_
  intro X C ret
  have hO : ∀ q, (q < a ∨ a + 36 ≤ q) → h q = h q := fun _ _ => rfl
  obtain ⟨hnp, ⟨pf, hpf, hpf1, hpf0⟩, hkp⟩ := hPe
  refine g_aload_n C 0 dX10_passOne_0 rfl rfl rfl ?_
  refine gf_10_9 C (hTr.1) (v := .ref (a + 35)) rfl dX10_passOne_1 rfl ?_
  refine g_iconst C (v := 1) dX10_passOne_4 (by decide) rfl ?_
  refine g_iald' C (hTr.2) (j := 1) rfl (by omega) (by decide) dX10_passOne_5 rfl ?_
  refine g_topi (y := nI (dN 1)) ((hdr 1 (by omega)).1) ?_
  refine g_istore_n C ([(2, .int (nI (dN 1))), (0, .ref (a)), (1, .ref (pp))]) dX10_passOne_6 rfl (by decide) rfl rfl ?_
  refine g_iconst C (v := 0) dX10_passOne_7 (by decide) rfl ?_
  refine g_istore_n C ([(3, .int (0)), (2, .int (nI (dN 1))), (0, .ref (a)), (1, .ref (pp))]) dX10_passOne_8 rfl (by decide) rfl rfl ?_
  have loop9 : ∀ (N : Nat) (i : Nat) (h1 : qH) (pd1 : Int32), 4 - i < N → (i ≤ 4) → (TrAt D h1 a s dr (nI da) sd wt pd1 sp) → (StAt D h1 s tn (nI e) sl) → (OlOK D h1 (a + 1) s tn sl rd dn wn) → (h1 pp = some (cQ D 4 pf)) → (∀ i, i < np → kd i < 5 ∧ KpAt h1 (qa i) (kci (kd i)) (co i) (lo i) (pa i)) → (∀ q, (q < a ∨ a + 36 ≤ q) → h1 q = h q) → (pd1 = psF np (fun i => covQ (kd i) rd (F_step tn sl rd) wn (co i) (lo i)) co lo (nI (dN 1)) pd (i)) → qG X 0 0 z h1 9 [(3, .int (nI (i))), (2, .int (nI (dN 1))), (0, .ref (a)), (1, .ref (pp))] [] := by
    intro N
    induction N with
    | zero => intro i h1 pd1 hm; exact absurd hm (Nat.not_lt_zero _)
    | succ N ih9 =>
      intro i h1 pd1 hm hi hTr hSt hOK hpf hkp hO hpd
      refine g_iload_n C 0 dX10_passOne_9 rfl rfl rfl ?_
      refine g_aload_n C 3 dX10_passOne_10 rfl rfl rfl ?_
      refine g_alenQ C (hpf) (v := 4) rfl dX10_passOne_11 rfl ?_
      refine g_icmp_ge C dX10_passOne_12 (tgt := 54) (by decide) (pc' := 15) rfl ?_ ?_
      · intro c12
        replace c12 := (nI_leI (a := 4) (b := i) (by omega) (by omega)).mp c12
        have hd13 := (hdr 1 (by omega)).2
        refine g_aload_n C 2 dX10_passOne_54 rfl rfl rfl ?_
        refine g_dup C rfl dX10_passOne_55 rfl ?_
        refine gf_10_37 C (hTr.1) (v := .int (wt)) rfl dX10_passOne_56 rfl ?_
        refine g_iload_n C 1 dX10_passOne_59 rfl rfl rfl ?_
        refine g_iconst C (v := 1) dX10_passOne_60 (by decide) rfl ?_
        refine g_icmp_ne C dX10_passOne_61 (tgt := 68) (by decide) (pc' := 64) rfl ?_ ?_
        · intro c61
          replace c61 := (not_congr (nI_eq (a := dN 1) (b := 1) (by omega) (by omega))).mp c61
          refine g_iconst C (v := 0) dX10_passOne_68 (by decide) rfl ?_
          refine g_iadd C dX10_passOne_69 rfl ?_
          refine pf_10_37 C (hTr.1) (v := .int ((wt) + (0))) rfl rfl (Nat.le_of_ble_eq_true rfl) dX10_passOne_70 (pc' := 73) rfl (fun h1 e2 o3 => ?_)
          have hTr : TrAt D h1 (a) (s) (dr) (nI (da)) (sd) ((wt) + (0)) (pd1) (sp) := ⟨e2, (o3 _ (by omega)).trans hTr.2⟩
          have hSt : StAt D h1 (s) (tn) (nI (e)) (sl) := ⟨(o3 _ (by omega)).trans hSt.1, (o3 _ (by omega)).trans hSt.2⟩
          have hOK : OlOK D h1 (a + 1) s tn sl rd dn wn := hOK.fr (fun q g1 g2 => o3 q (by omega))
          have hpf : h1 (pp) = some (cQ D 4 pf) := (o3 _ (by omega)).trans hpf
          have hkp : ∀ i, i < np → kd i < 5 ∧ KpAt h1 (qa i) (kci (kd i)) (co i) (lo i) (pa i) := fun i hi => ⟨(hkp i hi).1, (o3 _ (by have := hqa i hi; omega)).trans (hkp i hi).2⟩
          have hO : ∀ q, (q < a ∨ a + 36 ≤ q) → h1 q = h q := fun q hq => (o3 q (by omega)).trans (hO q hq)
          refine g_aload_n C 2 dX10_passOne_73 rfl rfl rfl ?_
          refine gf_10_19 C (hTr.1) (v := .ref (a + 1)) rfl dX10_passOne_74 rfl ?_
          refine g_iload_n C 1 dX10_passOne_77 rfl rfl rfl ?_
          refine g_callVv C (As := [.int (nI (dN 1))]) (q := (RX7, TX7, 8)) (k_X7_passDay l D b z hOK.any he hSt (by omega) (f := dN 1) ((hdr 1 (by omega)).2)) hw_10_72 (hOK.1.1) rfl (by decide) rfl rfl (Nat.le_of_ble_eq_true rfl) ⟨Nat.zero_le _, Nat.zero_le _⟩ dX10_passOne_78 (pc' := 81) rfl ?_
          rintro h4 ⟨⟨rd1, hOK, hr1, hr2, hr3, hr4, hr0⟩, fr5⟩
          have hTr : TrAt D h4 (a) (s) (dr) (nI (da)) (sd) ((wt) + (0)) (pd1) (sp) := hTr.fr (fun q g => fr5 q (by omega))
          have hSt : StAt D h4 (s) (tn) (nI (e)) (sl) := hSt.fr (fun q g1 g2 => fr5 q (by omega))
          have hpf : h4 (pp) = some (cQ D 4 pf) := (fr5 _ (by omega)).trans hpf; have hkp : ∀ i, i < np → kd i < 5 ∧ KpAt h4 (qa i) (kci (kd i)) (co i) (lo i) (pa i) := fun i hi => ⟨(hkp i hi).1, (fr5 _ (by have := hqa i hi; omega)).trans (hkp i hi).2⟩
          have hO : ∀ q, (q < a ∨ a + 36 ≤ q) → h4 q = h q := fun q hq => (fr5 q (by omega)).trans (hO q hq)
          refine g_iconst C (v := 0) dX10_passOne_81 (by decide) rfl ?_
          refine g_istore_n C ([(3, .int (0)), (2, .int (nI (dN 1))), (0, .ref (a)), (1, .ref (pp))]) dX10_passOne_82 rfl (by decide) rfl rfl ?_
          refine g_iload_n C 0 dX10_passOne_83 rfl rfl rfl ?_
          refine g_iconst C (v := 4) dX10_passOne_84 (by decide) rfl ?_
          refine g_icmp_ge C dX10_passOne_85 (tgt := 108) (by decide) (pc' := 88) rfl (fun c85 => absurd c85 (by decide)) (fun _ => ?_)
          refine g_aload_n C 2 dX10_passOne_88 rfl rfl rfl ?_
          refine gf_10_9 C (hTr.1) (v := .ref (a + 35)) rfl dX10_passOne_89 rfl ?_
          refine g_iload_n C 0 dX10_passOne_92 rfl rfl rfl ?_
          refine g_aload_n C 2 dX10_passOne_93 rfl rfl rfl ?_
          refine gf_10_9 C (hTr.1) (v := .ref (a + 35)) rfl dX10_passOne_94 rfl ?_
          refine g_iload_n C 0 dX10_passOne_97 rfl rfl rfl ?_
          refine g_iconst C (v := 1) dX10_passOne_98 (by decide) rfl ?_
          refine g_iadd C dX10_passOne_99 rfl ?_
          refine g_topi (y := 1) (by decide) ?_
          refine g_iald' C (hTr.2) (j := 1) rfl (by omega) (by decide) dX10_passOne_100 rfl ?_
          refine g_iast' C (hTr.2) (j := 0) rfl (by omega) (by decide) dX10_passOne_101 (pc' := 102) rfl (fun h6 e7 o8 => ?_)
          have hTr : TrAt D h6 (a) (s) (upd (dr) (0) (dr (1))) (nI (da)) (sd) ((wt) + (0)) (pd1) (sp) := ⟨(o8 _ (by omega)).trans hTr.1, e7⟩
          have hSt : StAt D h6 (s) (tn) (nI (e)) (sl) := ⟨(o8 _ (by omega)).trans hSt.1, (o8 _ (by omega)).trans hSt.2⟩
          have hOK : OlOK D h6 (a + 1) s tn sl rd1 (dn + 1) (dN 1) := hOK.fr (fun q g1 g2 => o8 q (by omega))
          have hpf : h6 (pp) = some (cQ D 4 pf) := (o8 _ (by omega)).trans hpf
          have hkp : ∀ i, i < np → kd i < 5 ∧ KpAt h6 (qa i) (kci (kd i)) (co i) (lo i) (pa i) := fun i hi => ⟨(hkp i hi).1, (o8 _ (by have := hqa i hi; omega)).trans (hkp i hi).2⟩
          have hO : ∀ q, (q < a ∨ a + 36 ≤ q) → h6 q = h q := fun q hq => (o8 q (by omega)).trans (hO q hq)
          refine g_iinc C (v := 1) 0 ([(3, .int (1)), (2, .int (nI (dN 1))), (0, .ref (a)), (1, .ref (pp))]) dX10_passOne_102 rfl (by decide) (by decide) rfl rfl ?_
          refine g_goto C dX10_passOne_105 (tgt := 83) (by decide) ?_
          refine g_iload_n C 0 dX10_passOne_83 rfl rfl rfl ?_
          refine g_iconst C (v := 4) dX10_passOne_84 (by decide) rfl ?_
          refine g_icmp_ge C dX10_passOne_85 (tgt := 108) (by decide) (pc' := 88) rfl (fun c85 => absurd c85 (by decide)) (fun _ => ?_)
          refine g_aload_n C 2 dX10_passOne_88 rfl rfl rfl ?_
          refine gf_10_9 C (hTr.1) (v := .ref (a + 35)) rfl dX10_passOne_89 rfl ?_
          refine g_iload_n C 0 dX10_passOne_92 rfl rfl rfl ?_
          refine g_aload_n C 2 dX10_passOne_93 rfl rfl rfl ?_
          refine gf_10_9 C (hTr.1) (v := .ref (a + 35)) rfl dX10_passOne_94 rfl ?_
          refine g_iload_n C 0 dX10_passOne_97 rfl rfl rfl ?_
          refine g_iconst C (v := 1) dX10_passOne_98 (by decide) rfl ?_
          refine g_iadd C dX10_passOne_99 rfl ?_
          refine g_topi (y := 2) (by decide) ?_
          refine g_iald' C (hTr.2) (j := 2) rfl (by omega) (by decide) dX10_passOne_100 rfl ?_
          refine g_iast' C (hTr.2) (j := 1) rfl (by omega) (by decide) dX10_passOne_101 (pc' := 102) rfl (fun h9 e10 o11 => ?_)
          have hTr : TrAt D h9 (a) (s) (upd (upd (dr) (0) (dr (1))) (1) (upd (dr) (0) (dr (1)) (2))) (nI (da)) (sd) ((wt) + (0)) (pd1) (sp) := ⟨(o11 _ (by omega)).trans hTr.1, e10⟩
          have hSt : StAt D h9 (s) (tn) (nI (e)) (sl) := ⟨(o11 _ (by omega)).trans hSt.1, (o11 _ (by omega)).trans hSt.2⟩
          have hOK : OlOK D h9 (a + 1) s tn sl rd1 (dn + 1) (dN 1) := hOK.fr (fun q g1 g2 => o11 q (by omega))
          have hpf : h9 (pp) = some (cQ D 4 pf) := (o11 _ (by omega)).trans hpf
          have hkp : ∀ i, i < np → kd i < 5 ∧ KpAt h9 (qa i) (kci (kd i)) (co i) (lo i) (pa i) := fun i hi => ⟨(hkp i hi).1, (o11 _ (by have := hqa i hi; omega)).trans (hkp i hi).2⟩
          have hO : ∀ q, (q < a ∨ a + 36 ≤ q) → h9 q = h q := fun q hq => (o11 q (by omega)).trans (hO q hq)
          refine g_iinc C (v := 2) 0 ([(3, .int (2)), (2, .int (nI (dN 1))), (0, .ref (a)), (1, .ref (pp))]) dX10_passOne_102 rfl (by decide) (by decide) rfl rfl ?_
          refine g_goto C dX10_passOne_105 (tgt := 83) (by decide) ?_
          refine g_iload_n C 0 dX10_passOne_83 rfl rfl rfl ?_
          refine g_iconst C (v := 4) dX10_passOne_84 (by decide) rfl ?_
          refine g_icmp_ge C dX10_passOne_85 (tgt := 108) (by decide) (pc' := 88) rfl (fun c85 => absurd c85 (by decide)) (fun _ => ?_)
          refine g_aload_n C 2 dX10_passOne_88 rfl rfl rfl ?_
          refine gf_10_9 C (hTr.1) (v := .ref (a + 35)) rfl dX10_passOne_89 rfl ?_
          refine g_iload_n C 0 dX10_passOne_92 rfl rfl rfl ?_
          refine g_aload_n C 2 dX10_passOne_93 rfl rfl rfl ?_
          refine gf_10_9 C (hTr.1) (v := .ref (a + 35)) rfl dX10_passOne_94 rfl ?_
          refine g_iload_n C 0 dX10_passOne_97 rfl rfl rfl ?_
          refine g_iconst C (v := 1) dX10_passOne_98 (by decide) rfl ?_
          refine g_iadd C dX10_passOne_99 rfl ?_
          refine g_topi (y := 3) (by decide) ?_
          refine g_iald' C (hTr.2) (j := 3) rfl (by omega) (by decide) dX10_passOne_100 rfl ?_
          refine g_iast' C (hTr.2) (j := 2) rfl (by omega) (by decide) dX10_passOne_101 (pc' := 102) rfl (fun h12 e13 o14 => ?_)
          have hTr : TrAt D h12 (a) (s) (upd (upd (upd (dr) (0) (dr (1))) (1) (upd (dr) (0) (dr (1)) (2))) (2) (upd (upd (dr) (0) (dr (1))) (1) (upd (dr) (0) (dr (1)) (2)) (3))) (nI (da)) (sd) ((wt) + (0)) (pd1) (sp) := ⟨(o14 _ (by omega)).trans hTr.1, e13⟩
          have hSt : StAt D h12 (s) (tn) (nI (e)) (sl) := ⟨(o14 _ (by omega)).trans hSt.1, (o14 _ (by omega)).trans hSt.2⟩
          have hOK : OlOK D h12 (a + 1) s tn sl rd1 (dn + 1) (dN 1) := hOK.fr (fun q g1 g2 => o14 q (by omega))
          have hpf : h12 (pp) = some (cQ D 4 pf) := (o14 _ (by omega)).trans hpf
          have hkp : ∀ i, i < np → kd i < 5 ∧ KpAt h12 (qa i) (kci (kd i)) (co i) (lo i) (pa i) := fun i hi => ⟨(hkp i hi).1, (o14 _ (by have := hqa i hi; omega)).trans (hkp i hi).2⟩
          have hO : ∀ q, (q < a ∨ a + 36 ≤ q) → h12 q = h q := fun q hq => (o14 q (by omega)).trans (hO q hq)
          refine g_iinc C (v := 3) 0 ([(3, .int (3)), (2, .int (nI (dN 1))), (0, .ref (a)), (1, .ref (pp))]) dX10_passOne_102 rfl (by decide) (by decide) rfl rfl ?_
          refine g_goto C dX10_passOne_105 (tgt := 83) (by decide) ?_
          refine g_iload_n C 0 dX10_passOne_83 rfl rfl rfl ?_
          refine g_iconst C (v := 4) dX10_passOne_84 (by decide) rfl ?_
          refine g_icmp_ge C dX10_passOne_85 (tgt := 108) (by decide) (pc' := 88) rfl (fun c85 => absurd c85 (by decide)) (fun _ => ?_)
          refine g_aload_n C 2 dX10_passOne_88 rfl rfl rfl ?_
          refine gf_10_9 C (hTr.1) (v := .ref (a + 35)) rfl dX10_passOne_89 rfl ?_
          refine g_iload_n C 0 dX10_passOne_92 rfl rfl rfl ?_
          refine g_aload_n C 2 dX10_passOne_93 rfl rfl rfl ?_
          refine gf_10_9 C (hTr.1) (v := .ref (a + 35)) rfl dX10_passOne_94 rfl ?_
          refine g_iload_n C 0 dX10_passOne_97 rfl rfl rfl ?_
          refine g_iconst C (v := 1) dX10_passOne_98 (by decide) rfl ?_
          refine g_iadd C dX10_passOne_99 rfl ?_
          refine g_topi (y := 4) (by decide) ?_
          refine g_iald' C (hTr.2) (j := 4) rfl (by omega) (by decide) dX10_passOne_100 rfl ?_
          refine g_iast' C (hTr.2) (j := 3) rfl (by omega) (by decide) dX10_passOne_101 (pc' := 102) rfl (fun h15 e16 o17 => ?_)
          have hTr : TrAt D h15 (a) (s) (upd (upd (upd (upd (dr) (0) (dr (1))) (1) (upd (dr) (0) (dr (1)) (2))) (2) (upd (upd (dr) (0) (dr (1))) (1) (upd (dr) (0) (dr (1)) (2)) (3))) (3) (upd (upd (upd (dr) (0) (dr (1))) (1) (upd (dr) (0) (dr (1)) (2))) (2) (upd (upd (dr) (0) (dr (1))) (1) (upd (dr) (0) (dr (1)) (2)) (3)) (4))) (nI (da)) (sd) ((wt) + (0)) (pd1) (sp) := ⟨(o17 _ (by omega)).trans hTr.1, e16⟩
          have hSt : StAt D h15 (s) (tn) (nI (e)) (sl) := ⟨(o17 _ (by omega)).trans hSt.1, (o17 _ (by omega)).trans hSt.2⟩
          have hOK : OlOK D h15 (a + 1) s tn sl rd1 (dn + 1) (dN 1) := hOK.fr (fun q g1 g2 => o17 q (by omega))
          have hpf : h15 (pp) = some (cQ D 4 pf) := (o17 _ (by omega)).trans hpf
          have hkp : ∀ i, i < np → kd i < 5 ∧ KpAt h15 (qa i) (kci (kd i)) (co i) (lo i) (pa i) := fun i hi => ⟨(hkp i hi).1, (o17 _ (by have := hqa i hi; omega)).trans (hkp i hi).2⟩
          have hO : ∀ q, (q < a ∨ a + 36 ≤ q) → h15 q = h q := fun q hq => (o17 q (by omega)).trans (hO q hq)
          refine g_iinc C (v := 4) 0 ([(3, .int (4)), (2, .int (nI (dN 1))), (0, .ref (a)), (1, .ref (pp))]) dX10_passOne_102 rfl (by decide) (by decide) rfl rfl ?_
          refine g_goto C dX10_passOne_105 (tgt := 83) (by decide) ?_
          refine g_iload_n C 0 dX10_passOne_83 rfl rfl rfl ?_
          refine g_iconst C (v := 4) dX10_passOne_84 (by decide) rfl ?_
          refine g_icmp_ge C dX10_passOne_85 (tgt := 108) (by decide) (pc' := 88) rfl (fun _ => ?_) (fun c85 => absurd (by decide) c85)
          refine g_aload_n C 2 dX10_passOne_108 rfl rfl rfl ?_
          refine g_dup C rfl dX10_passOne_109 rfl ?_
          refine gf_10_29 C (hTr.1) (v := .int (nI (da))) rfl dX10_passOne_110 rfl ?_
          refine g_iconst C (v := 1) dX10_passOne_113 (by decide) rfl ?_
          refine g_isub C dX10_passOne_114 rfl ?_
          refine g_topi (y := nI (da - 1)) (nI_sub' (b := 1) (by omega)) ?_
          refine pf_10_29 C (hTr.1) (v := .int (nI (da - 1))) rfl rfl (Nat.le_of_ble_eq_true rfl) dX10_passOne_115 (pc' := 118) rfl (fun h18 e19 o20 => ?_)
          have hTr : TrAt D h18 (a) (s) (upd (upd (upd (upd (dr) (0) (dr (1))) (1) (upd (dr) (0) (dr (1)) (2))) (2) (upd (upd (dr) (0) (dr (1))) (1) (upd (dr) (0) (dr (1)) (2)) (3))) (3) (upd (upd (upd (dr) (0) (dr (1))) (1) (upd (dr) (0) (dr (1)) (2))) (2) (upd (upd (dr) (0) (dr (1))) (1) (upd (dr) (0) (dr (1)) (2)) (3)) (4))) (nI (da - 1)) (sd) ((wt) + (0)) (pd1) (sp) := ⟨e19, (o20 _ (by omega)).trans hTr.2⟩
          have hSt : StAt D h18 (s) (tn) (nI (e)) (sl) := ⟨(o20 _ (by omega)).trans hSt.1, (o20 _ (by omega)).trans hSt.2⟩
          have hOK : OlOK D h18 (a + 1) s tn sl rd1 (dn + 1) (dN 1) := hOK.fr (fun q g1 g2 => o20 q (by omega))
          have hpf : h18 (pp) = some (cQ D 4 pf) := (o20 _ (by omega)).trans hpf
          have hkp : ∀ i, i < np → kd i < 5 ∧ KpAt h18 (qa i) (kci (kd i)) (co i) (lo i) (pa i) := fun i hi => ⟨(hkp i hi).1, (o20 _ (by have := hqa i hi; omega)).trans (hkp i hi).2⟩
          have hO : ∀ q, (q < a ∨ a + 36 ≤ q) → h18 q = h q := fun q hq => (o20 q (by omega)).trans (hO q hq)
          exact ret _ _ _ dX10_passOne_118 (⟨⟨_, rd1, by have h := hTr; rw [(by omega : i = 4)] at hpd; rw [hpd] at h; rw [if_neg c61]; exact h, lt5 (by simp [upd]) (by simp [upd]) (by simp [upd]) (by simp [upd]) (by simp [upd]), hOK, hr1, hr2, hr3, hr4⟩, hO⟩)
        · intro c61
          replace c61 := (nI_eq (a := dN 1) (b := 1) (by omega) (by omega)).mp c61
          refine g_iconst C (v := 1) dX10_passOne_64 (by decide) rfl ?_
          refine g_goto C dX10_passOne_65 (tgt := 69) (by decide) ?_
          refine g_iadd C dX10_passOne_69 rfl ?_
          refine pf_10_37 C (hTr.1) (v := .int ((wt) + (1))) rfl rfl (Nat.le_of_ble_eq_true rfl) dX10_passOne_70 (pc' := 73) rfl (fun h21 e22 o23 => ?_)
          have hTr : TrAt D h21 (a) (s) (dr) (nI (da)) (sd) ((wt) + (1)) (pd1) (sp) := ⟨e22, (o23 _ (by omega)).trans hTr.2⟩
          have hSt : StAt D h21 (s) (tn) (nI (e)) (sl) := ⟨(o23 _ (by omega)).trans hSt.1, (o23 _ (by omega)).trans hSt.2⟩
          have hOK : OlOK D h21 (a + 1) s tn sl rd dn wn := hOK.fr (fun q g1 g2 => o23 q (by omega))
          have hpf : h21 (pp) = some (cQ D 4 pf) := (o23 _ (by omega)).trans hpf
          have hkp : ∀ i, i < np → kd i < 5 ∧ KpAt h21 (qa i) (kci (kd i)) (co i) (lo i) (pa i) := fun i hi => ⟨(hkp i hi).1, (o23 _ (by have := hqa i hi; omega)).trans (hkp i hi).2⟩
          have hO : ∀ q, (q < a ∨ a + 36 ≤ q) → h21 q = h q := fun q hq => (o23 q (by omega)).trans (hO q hq)
          refine g_aload_n C 2 dX10_passOne_73 rfl rfl rfl ?_
          refine gf_10_19 C (hTr.1) (v := .ref (a + 1)) rfl dX10_passOne_74 rfl ?_
          refine g_iload_n C 1 dX10_passOne_77 rfl rfl rfl ?_
          refine g_callVv C (As := [.int (nI (dN 1))]) (q := (RX7, TX7, 8)) (k_X7_passDay l D b z hOK.any he hSt (by omega) (f := dN 1) ((hdr 1 (by omega)).2)) hw_10_72 (hOK.1.1) rfl (by decide) rfl rfl (Nat.le_of_ble_eq_true rfl) ⟨Nat.zero_le _, Nat.zero_le _⟩ dX10_passOne_78 (pc' := 81) rfl ?_
          rintro h24 ⟨⟨rd1, hOK, hr1, hr2, hr3, hr4, hr0⟩, fr25⟩
          have hTr : TrAt D h24 (a) (s) (dr) (nI (da)) (sd) ((wt) + (1)) (pd1) (sp) := hTr.fr (fun q g => fr25 q (by omega))
          have hSt : StAt D h24 (s) (tn) (nI (e)) (sl) := hSt.fr (fun q g1 g2 => fr25 q (by omega))
          have hpf : h24 (pp) = some (cQ D 4 pf) := (fr25 _ (by omega)).trans hpf; have hkp : ∀ i, i < np → kd i < 5 ∧ KpAt h24 (qa i) (kci (kd i)) (co i) (lo i) (pa i) := fun i hi => ⟨(hkp i hi).1, (fr25 _ (by have := hqa i hi; omega)).trans (hkp i hi).2⟩
          have hO : ∀ q, (q < a ∨ a + 36 ≤ q) → h24 q = h q := fun q hq => (fr25 q (by omega)).trans (hO q hq)
          refine g_iconst C (v := 0) dX10_passOne_81 (by decide) rfl ?_
          refine g_istore_n C ([(3, .int (0)), (2, .int (nI (dN 1))), (0, .ref (a)), (1, .ref (pp))]) dX10_passOne_82 rfl (by decide) rfl rfl ?_
          refine g_iload_n C 0 dX10_passOne_83 rfl rfl rfl ?_
          refine g_iconst C (v := 4) dX10_passOne_84 (by decide) rfl ?_
          refine g_icmp_ge C dX10_passOne_85 (tgt := 108) (by decide) (pc' := 88) rfl (fun c85 => absurd c85 (by decide)) (fun _ => ?_)
          refine g_aload_n C 2 dX10_passOne_88 rfl rfl rfl ?_
          refine gf_10_9 C (hTr.1) (v := .ref (a + 35)) rfl dX10_passOne_89 rfl ?_
          refine g_iload_n C 0 dX10_passOne_92 rfl rfl rfl ?_
          refine g_aload_n C 2 dX10_passOne_93 rfl rfl rfl ?_
          refine gf_10_9 C (hTr.1) (v := .ref (a + 35)) rfl dX10_passOne_94 rfl ?_
          refine g_iload_n C 0 dX10_passOne_97 rfl rfl rfl ?_
          refine g_iconst C (v := 1) dX10_passOne_98 (by decide) rfl ?_
          refine g_iadd C dX10_passOne_99 rfl ?_
          refine g_topi (y := 1) (by decide) ?_
          refine g_iald' C (hTr.2) (j := 1) rfl (by omega) (by decide) dX10_passOne_100 rfl ?_
          refine g_iast' C (hTr.2) (j := 0) rfl (by omega) (by decide) dX10_passOne_101 (pc' := 102) rfl (fun h26 e27 o28 => ?_)
          have hTr : TrAt D h26 (a) (s) (upd (dr) (0) (dr (1))) (nI (da)) (sd) ((wt) + (1)) (pd1) (sp) := ⟨(o28 _ (by omega)).trans hTr.1, e27⟩
          have hSt : StAt D h26 (s) (tn) (nI (e)) (sl) := ⟨(o28 _ (by omega)).trans hSt.1, (o28 _ (by omega)).trans hSt.2⟩
          have hOK : OlOK D h26 (a + 1) s tn sl rd1 (dn + 1) (dN 1) := hOK.fr (fun q g1 g2 => o28 q (by omega))
          have hpf : h26 (pp) = some (cQ D 4 pf) := (o28 _ (by omega)).trans hpf
          have hkp : ∀ i, i < np → kd i < 5 ∧ KpAt h26 (qa i) (kci (kd i)) (co i) (lo i) (pa i) := fun i hi => ⟨(hkp i hi).1, (o28 _ (by have := hqa i hi; omega)).trans (hkp i hi).2⟩
          have hO : ∀ q, (q < a ∨ a + 36 ≤ q) → h26 q = h q := fun q hq => (o28 q (by omega)).trans (hO q hq)
          refine g_iinc C (v := 1) 0 ([(3, .int (1)), (2, .int (nI (dN 1))), (0, .ref (a)), (1, .ref (pp))]) dX10_passOne_102 rfl (by decide) (by decide) rfl rfl ?_
          refine g_goto C dX10_passOne_105 (tgt := 83) (by decide) ?_
          refine g_iload_n C 0 dX10_passOne_83 rfl rfl rfl ?_
          refine g_iconst C (v := 4) dX10_passOne_84 (by decide) rfl ?_
          refine g_icmp_ge C dX10_passOne_85 (tgt := 108) (by decide) (pc' := 88) rfl (fun c85 => absurd c85 (by decide)) (fun _ => ?_)
          refine g_aload_n C 2 dX10_passOne_88 rfl rfl rfl ?_
          refine gf_10_9 C (hTr.1) (v := .ref (a + 35)) rfl dX10_passOne_89 rfl ?_
          refine g_iload_n C 0 dX10_passOne_92 rfl rfl rfl ?_
          refine g_aload_n C 2 dX10_passOne_93 rfl rfl rfl ?_
          refine gf_10_9 C (hTr.1) (v := .ref (a + 35)) rfl dX10_passOne_94 rfl ?_
          refine g_iload_n C 0 dX10_passOne_97 rfl rfl rfl ?_
          refine g_iconst C (v := 1) dX10_passOne_98 (by decide) rfl ?_
          refine g_iadd C dX10_passOne_99 rfl ?_
          refine g_topi (y := 2) (by decide) ?_
          refine g_iald' C (hTr.2) (j := 2) rfl (by omega) (by decide) dX10_passOne_100 rfl ?_
          refine g_iast' C (hTr.2) (j := 1) rfl (by omega) (by decide) dX10_passOne_101 (pc' := 102) rfl (fun h29 e30 o31 => ?_)
          have hTr : TrAt D h29 (a) (s) (upd (upd (dr) (0) (dr (1))) (1) (upd (dr) (0) (dr (1)) (2))) (nI (da)) (sd) ((wt) + (1)) (pd1) (sp) := ⟨(o31 _ (by omega)).trans hTr.1, e30⟩
          have hSt : StAt D h29 (s) (tn) (nI (e)) (sl) := ⟨(o31 _ (by omega)).trans hSt.1, (o31 _ (by omega)).trans hSt.2⟩
          have hOK : OlOK D h29 (a + 1) s tn sl rd1 (dn + 1) (dN 1) := hOK.fr (fun q g1 g2 => o31 q (by omega))
          have hpf : h29 (pp) = some (cQ D 4 pf) := (o31 _ (by omega)).trans hpf
          have hkp : ∀ i, i < np → kd i < 5 ∧ KpAt h29 (qa i) (kci (kd i)) (co i) (lo i) (pa i) := fun i hi => ⟨(hkp i hi).1, (o31 _ (by have := hqa i hi; omega)).trans (hkp i hi).2⟩
          have hO : ∀ q, (q < a ∨ a + 36 ≤ q) → h29 q = h q := fun q hq => (o31 q (by omega)).trans (hO q hq)
          refine g_iinc C (v := 2) 0 ([(3, .int (2)), (2, .int (nI (dN 1))), (0, .ref (a)), (1, .ref (pp))]) dX10_passOne_102 rfl (by decide) (by decide) rfl rfl ?_
          refine g_goto C dX10_passOne_105 (tgt := 83) (by decide) ?_
          refine g_iload_n C 0 dX10_passOne_83 rfl rfl rfl ?_
          refine g_iconst C (v := 4) dX10_passOne_84 (by decide) rfl ?_
          refine g_icmp_ge C dX10_passOne_85 (tgt := 108) (by decide) (pc' := 88) rfl (fun c85 => absurd c85 (by decide)) (fun _ => ?_)
          refine g_aload_n C 2 dX10_passOne_88 rfl rfl rfl ?_
          refine gf_10_9 C (hTr.1) (v := .ref (a + 35)) rfl dX10_passOne_89 rfl ?_
          refine g_iload_n C 0 dX10_passOne_92 rfl rfl rfl ?_
          refine g_aload_n C 2 dX10_passOne_93 rfl rfl rfl ?_
          refine gf_10_9 C (hTr.1) (v := .ref (a + 35)) rfl dX10_passOne_94 rfl ?_
          refine g_iload_n C 0 dX10_passOne_97 rfl rfl rfl ?_
          refine g_iconst C (v := 1) dX10_passOne_98 (by decide) rfl ?_
          refine g_iadd C dX10_passOne_99 rfl ?_
          refine g_topi (y := 3) (by decide) ?_
          refine g_iald' C (hTr.2) (j := 3) rfl (by omega) (by decide) dX10_passOne_100 rfl ?_
          refine g_iast' C (hTr.2) (j := 2) rfl (by omega) (by decide) dX10_passOne_101 (pc' := 102) rfl (fun h32 e33 o34 => ?_)
          have hTr : TrAt D h32 (a) (s) (upd (upd (upd (dr) (0) (dr (1))) (1) (upd (dr) (0) (dr (1)) (2))) (2) (upd (upd (dr) (0) (dr (1))) (1) (upd (dr) (0) (dr (1)) (2)) (3))) (nI (da)) (sd) ((wt) + (1)) (pd1) (sp) := ⟨(o34 _ (by omega)).trans hTr.1, e33⟩
          have hSt : StAt D h32 (s) (tn) (nI (e)) (sl) := ⟨(o34 _ (by omega)).trans hSt.1, (o34 _ (by omega)).trans hSt.2⟩
          have hOK : OlOK D h32 (a + 1) s tn sl rd1 (dn + 1) (dN 1) := hOK.fr (fun q g1 g2 => o34 q (by omega))
          have hpf : h32 (pp) = some (cQ D 4 pf) := (o34 _ (by omega)).trans hpf
          have hkp : ∀ i, i < np → kd i < 5 ∧ KpAt h32 (qa i) (kci (kd i)) (co i) (lo i) (pa i) := fun i hi => ⟨(hkp i hi).1, (o34 _ (by have := hqa i hi; omega)).trans (hkp i hi).2⟩
          have hO : ∀ q, (q < a ∨ a + 36 ≤ q) → h32 q = h q := fun q hq => (o34 q (by omega)).trans (hO q hq)
          refine g_iinc C (v := 3) 0 ([(3, .int (3)), (2, .int (nI (dN 1))), (0, .ref (a)), (1, .ref (pp))]) dX10_passOne_102 rfl (by decide) (by decide) rfl rfl ?_
          refine g_goto C dX10_passOne_105 (tgt := 83) (by decide) ?_
          refine g_iload_n C 0 dX10_passOne_83 rfl rfl rfl ?_
          refine g_iconst C (v := 4) dX10_passOne_84 (by decide) rfl ?_
          refine g_icmp_ge C dX10_passOne_85 (tgt := 108) (by decide) (pc' := 88) rfl (fun c85 => absurd c85 (by decide)) (fun _ => ?_)
          refine g_aload_n C 2 dX10_passOne_88 rfl rfl rfl ?_
          refine gf_10_9 C (hTr.1) (v := .ref (a + 35)) rfl dX10_passOne_89 rfl ?_
          refine g_iload_n C 0 dX10_passOne_92 rfl rfl rfl ?_
          refine g_aload_n C 2 dX10_passOne_93 rfl rfl rfl ?_
          refine gf_10_9 C (hTr.1) (v := .ref (a + 35)) rfl dX10_passOne_94 rfl ?_
          refine g_iload_n C 0 dX10_passOne_97 rfl rfl rfl ?_
          refine g_iconst C (v := 1) dX10_passOne_98 (by decide) rfl ?_
          refine g_iadd C dX10_passOne_99 rfl ?_
          refine g_topi (y := 4) (by decide) ?_
          refine g_iald' C (hTr.2) (j := 4) rfl (by omega) (by decide) dX10_passOne_100 rfl ?_
          refine g_iast' C (hTr.2) (j := 3) rfl (by omega) (by decide) dX10_passOne_101 (pc' := 102) rfl (fun h35 e36 o37 => ?_)
          have hTr : TrAt D h35 (a) (s) (upd (upd (upd (upd (dr) (0) (dr (1))) (1) (upd (dr) (0) (dr (1)) (2))) (2) (upd (upd (dr) (0) (dr (1))) (1) (upd (dr) (0) (dr (1)) (2)) (3))) (3) (upd (upd (upd (dr) (0) (dr (1))) (1) (upd (dr) (0) (dr (1)) (2))) (2) (upd (upd (dr) (0) (dr (1))) (1) (upd (dr) (0) (dr (1)) (2)) (3)) (4))) (nI (da)) (sd) ((wt) + (1)) (pd1) (sp) := ⟨(o37 _ (by omega)).trans hTr.1, e36⟩
          have hSt : StAt D h35 (s) (tn) (nI (e)) (sl) := ⟨(o37 _ (by omega)).trans hSt.1, (o37 _ (by omega)).trans hSt.2⟩
          have hOK : OlOK D h35 (a + 1) s tn sl rd1 (dn + 1) (dN 1) := hOK.fr (fun q g1 g2 => o37 q (by omega))
          have hpf : h35 (pp) = some (cQ D 4 pf) := (o37 _ (by omega)).trans hpf
          have hkp : ∀ i, i < np → kd i < 5 ∧ KpAt h35 (qa i) (kci (kd i)) (co i) (lo i) (pa i) := fun i hi => ⟨(hkp i hi).1, (o37 _ (by have := hqa i hi; omega)).trans (hkp i hi).2⟩
          have hO : ∀ q, (q < a ∨ a + 36 ≤ q) → h35 q = h q := fun q hq => (o37 q (by omega)).trans (hO q hq)
          refine g_iinc C (v := 4) 0 ([(3, .int (4)), (2, .int (nI (dN 1))), (0, .ref (a)), (1, .ref (pp))]) dX10_passOne_102 rfl (by decide) (by decide) rfl rfl ?_
          refine g_goto C dX10_passOne_105 (tgt := 83) (by decide) ?_
          refine g_iload_n C 0 dX10_passOne_83 rfl rfl rfl ?_
          refine g_iconst C (v := 4) dX10_passOne_84 (by decide) rfl ?_
          refine g_icmp_ge C dX10_passOne_85 (tgt := 108) (by decide) (pc' := 88) rfl (fun _ => ?_) (fun c85 => absurd (by decide) c85)
          refine g_aload_n C 2 dX10_passOne_108 rfl rfl rfl ?_
          refine g_dup C rfl dX10_passOne_109 rfl ?_
          refine gf_10_29 C (hTr.1) (v := .int (nI (da))) rfl dX10_passOne_110 rfl ?_
          refine g_iconst C (v := 1) dX10_passOne_113 (by decide) rfl ?_
          refine g_isub C dX10_passOne_114 rfl ?_
          refine g_topi (y := nI (da - 1)) (nI_sub' (b := 1) (by omega)) ?_
          refine pf_10_29 C (hTr.1) (v := .int (nI (da - 1))) rfl rfl (Nat.le_of_ble_eq_true rfl) dX10_passOne_115 (pc' := 118) rfl (fun h38 e39 o40 => ?_)
          have hTr : TrAt D h38 (a) (s) (upd (upd (upd (upd (dr) (0) (dr (1))) (1) (upd (dr) (0) (dr (1)) (2))) (2) (upd (upd (dr) (0) (dr (1))) (1) (upd (dr) (0) (dr (1)) (2)) (3))) (3) (upd (upd (upd (dr) (0) (dr (1))) (1) (upd (dr) (0) (dr (1)) (2))) (2) (upd (upd (dr) (0) (dr (1))) (1) (upd (dr) (0) (dr (1)) (2)) (3)) (4))) (nI (da - 1)) (sd) ((wt) + (1)) (pd1) (sp) := ⟨e39, (o40 _ (by omega)).trans hTr.2⟩
          have hSt : StAt D h38 (s) (tn) (nI (e)) (sl) := ⟨(o40 _ (by omega)).trans hSt.1, (o40 _ (by omega)).trans hSt.2⟩
          have hOK : OlOK D h38 (a + 1) s tn sl rd1 (dn + 1) (dN 1) := hOK.fr (fun q g1 g2 => o40 q (by omega))
          have hpf : h38 (pp) = some (cQ D 4 pf) := (o40 _ (by omega)).trans hpf
          have hkp : ∀ i, i < np → kd i < 5 ∧ KpAt h38 (qa i) (kci (kd i)) (co i) (lo i) (pa i) := fun i hi => ⟨(hkp i hi).1, (o40 _ (by have := hqa i hi; omega)).trans (hkp i hi).2⟩
          have hO : ∀ q, (q < a ∨ a + 36 ≤ q) → h38 q = h q := fun q hq => (o40 q (by omega)).trans (hO q hq)
          exact ret _ _ _ dX10_passOne_118 (⟨⟨_, rd1, by have h := hTr; rw [(by omega : i = 4)] at hpd; rw [hpd] at h; rw [if_pos c61]; exact h, lt5 (by simp [upd]) (by simp [upd]) (by simp [upd]) (by simp [upd]) (by simp [upd]), hOK, hr1, hr2, hr3, hr4⟩, hO⟩)
      · intro c12
        replace c12 := (not_congr (nI_leI (a := 4) (b := i) (by omega) (by omega))).mp c12
        rcases Nat.lt_or_ge i np with hin | hin
        · skip
          obtain ⟨hkd, hKp⟩ := hkp i hin
          refine g_aload_n C 3 dX10_passOne_15 rfl rfl rfl ?_
          refine g_iload_n C 0 dX10_passOne_16 rfl rfl rfl ?_
          refine g_aaldQ C (hpf) (j := i) rfl (by omega) (by decide) (hpf1 _ hin) dX10_passOne_17 rfl ?_
          refine g_astore C ([(4, .ref (qa i)), (3, .int (nI (i))), (2, .int (nI (dN 1))), (0, .ref (a)), (1, .ref (pp))]) dX10_passOne_18 (by decide) rfl rfl ?_
          refine g_aload_n C 3 dX10_passOne_20 rfl rfl rfl ?_
          refine g_dup C rfl dX10_passOne_21 rfl ?_
          refine gf_10_40 C (hTr.1) (v := .int (pd1)) rfl dX10_passOne_22 rfl ?_
          refine g_aload C 0 dX10_passOne_25 rfl rfl ?_
          refine g_ifnonnull C dX10_passOne_27 (tgt := 34) (by decide) ?_
          refine g_aload C 0 dX10_passOne_34 rfl rfl ?_
          refine g_aload_n C 3 dX10_passOne_36 rfl rfl rfl ?_
          refine gf_10_19 C (hTr.1) (v := .ref (a + 1)) rfl dX10_passOne_37 rfl ?_
          refine g_iload_n C 2 dX10_passOne_40 rfl rfl rfl ?_
          have J : ∀ r41 : Int32, ((covQ (kd i) rd (F_step tn sl rd) wn (co i) (lo i) ∧ r41 = co i) ∨ (¬ covQ (kd i) rd (F_step tn sl rd) wn (co i) (lo i) ∧ r41 = (if (nI (dN 1)) = 1 then lo i else 0))) → qG X 0 0 z h1 44 [(4, .ref (qa i)), (3, .int (nI (i))), (2, .int (nI (dN 1))), (0, .ref (a)), (1, .ref (pp))] [.int (r41), .int (pd1), .ref (a)] := by
            intro r41 hpk
            refine g_iadd C dX10_passOne_44 rfl ?_
            refine pf_10_40 C (hTr.1) (v := .int ((pd1) + (r41))) rfl rfl (Nat.le_of_ble_eq_true rfl) dX10_passOne_45 (pc' := 48) rfl (fun h42 e43 o44 => ?_)
            have hTr : TrAt D h42 (a) (s) (dr) (nI (da)) (sd) (wt) ((pd1) + (r41)) (sp) := ⟨e43, (o44 _ (by omega)).trans hTr.2⟩
            have hSt : StAt D h42 (s) (tn) (nI (e)) (sl) := ⟨(o44 _ (by omega)).trans hSt.1, (o44 _ (by omega)).trans hSt.2⟩
            have hOK : OlOK D h42 (a + 1) s tn sl rd dn wn := hOK.fr (fun q g1 g2 => o44 q (by omega))
            have hpf : h42 (pp) = some (cQ D 4 pf) := (o44 _ (by omega)).trans hpf
            have hkp : ∀ i, i < np → kd i < 5 ∧ KpAt h42 (qa i) (kci (kd i)) (co i) (lo i) (pa i) := fun i hi => ⟨(hkp i hi).1, (o44 _ (by have := hqa i hi; omega)).trans (hkp i hi).2⟩
            have hO : ∀ q, (q < a ∨ a + 36 ≤ q) → h42 q = h q := fun q hq => (o44 q (by omega)).trans (hO q hq)
            refine g_iinc C (v := nI (i + 1)) 1 ([(3, .int (nI (i + 1))), (4, .ref (qa i)), (2, .int (nI (dN 1))), (0, .ref (a)), (1, .ref (pp))]) dX10_passOne_48 rfl (nI_1 _) (by decide) rfl rfl ?_
            refine g_goto C dX10_passOne_51 (tgt := 9) (by decide) ?_
            refine q_lsub [0, 2, 3, 4] (L' := [(3, .int (nI (i + 1))), (2, .int (nI (dN 1))), (0, .ref (a)), (1, .ref (pp))]) rfl ?_
            exact ih9 (i + 1) (h42) ((pd1) + (r41)) (by omega) (by omega) (hTr) (hSt) (hOK) (hpf) (hkp) (hO) (by rw [hpd]; simp only [psF, if_pos hin]; rw [payV_of hpk])
          have hk5 : kd i = 0 ∨ kd i = 1 ∨ kd i = 2 ∨ kd i = 3 ∨ kd i = 4 := by have := hkd; omega
          rcases hk5 with hk | hk | hk | hk | hk
          · have hKp : KpAt h1 (qa i) 4 (co i) (lo i) (pa i) := by have g := hKp; rw [hk] at g; exact g
            refine g_callVi C (As := [.ref (a + 1), .int (nI (dN 1))]) (q := (RX4, TX4, 3)) (k0_X4_payment l D b z hwn hOK hKp (nI (dN 1))) hw_10_66_4 (hKp) rfl (by decide) rfl rfl (Nat.le_of_ble_eq_true rfl) ⟨Nat.zero_le _, Nat.zero_le _⟩ dX10_passOne_41 (pc' := 44) rfl ?_
            intro rr h9 hp9
            obtain ⟨hp9, e9⟩ := hp9
            subst h9
            exact J rr (by rw [hk]; exact hp9)
          · have hKp : KpAt h1 (qa i) 2 (co i) (lo i) (pa i) := by have g := hKp; rw [hk] at g; exact g
            refine g_callUi C (As := [.ref (a + 1), .int (nI (dN 1))]) (q := (RX2, TX2, 3)) (k1_X4_payment l D b z hwn hOK hKp (nI (dN 1))) hw_10_66_2 (hKp) rfl (by decide) rfl rfl (Nat.le_of_ble_eq_true rfl) ⟨Nat.zero_le _, Nat.zero_le _⟩ dX10_passOne_41 (pc' := 44) rfl ?_
            intro rr h9 hp9
            obtain ⟨hp9, e9⟩ := hp9
            subst h9
            exact J rr (by rw [hk]; exact hp9)
          · have hKp : KpAt h1 (qa i) 6 (co i) (lo i) (pa i) := by have g := hKp; rw [hk] at g; exact g
            refine g_callUi C (As := [.ref (a + 1), .int (nI (dN 1))]) (q := (RX6, TX6, 3)) (k2_X4_payment l D b z hwn hOK hKp (nI (dN 1))) hw_10_66_6 (hKp) rfl (by decide) rfl rfl (Nat.le_of_ble_eq_true rfl) ⟨Nat.zero_le _, Nat.zero_le _⟩ dX10_passOne_41 (pc' := 44) rfl ?_
            intro rr h9 hp9
            obtain ⟨hp9, e9⟩ := hp9
            subst h9
            exact J rr (by rw [hk]; exact hp9)
          · have hKp : KpAt h1 (qa i) 1 (co i) (lo i) (pa i) := by have g := hKp; rw [hk] at g; exact g
            refine g_callUi C (As := [.ref (a + 1), .int (nI (dN 1))]) (q := (RX1, TX1, 3)) (k3_X4_payment l D b z hwn hOK hKp (nI (dN 1))) hw_10_66_1 (hKp) rfl (by decide) rfl rfl (Nat.le_of_ble_eq_true rfl) ⟨Nat.zero_le _, Nat.zero_le _⟩ dX10_passOne_41 (pc' := 44) rfl ?_
            intro rr h9 hp9
            obtain ⟨hp9, e9⟩ := hp9
            subst h9
            exact J rr (by rw [hk]; exact hp9)
          · have hKp : KpAt h1 (qa i) 5 (co i) (lo i) (pa i) := by have g := hKp; rw [hk] at g; exact g
            refine g_callUi C (As := [.ref (a + 1), .int (nI (dN 1))]) (q := (RX5, TX5, 3)) (k4_X4_payment l D b z hwn hOK hKp (nI (dN 1))) hw_10_66_5 (hKp) rfl (by decide) rfl rfl (Nat.le_of_ble_eq_true rfl) ⟨Nat.zero_le _, Nat.zero_le _⟩ dX10_passOne_41 (pc' := 44) rfl ?_
            intro rr h9 hp9
            obtain ⟨hp9, e9⟩ := hp9
            subst h9
            exact J rr (by rw [hk]; exact hp9)
        · skip
          refine g_aload_n C 3 dX10_passOne_15 rfl rfl rfl ?_
          refine g_iload_n C 0 dX10_passOne_16 rfl rfl rfl ?_
          refine g_aaldQN C (hpf) (j := i) rfl (by omega) (by decide) (hpf0 _ hin (by omega)) dX10_passOne_17 rfl ?_
          refine g_astoreN C ([(4, .null), (3, .int (nI (i))), (2, .int (nI (dN 1))), (0, .ref (a)), (1, .ref (pp))]) dX10_passOne_18 (by decide) rfl rfl ?_
          refine g_aload_n C 3 dX10_passOne_20 rfl rfl rfl ?_
          refine g_dup C rfl dX10_passOne_21 rfl ?_
          refine gf_10_40 C (hTr.1) (v := .int (pd1)) rfl dX10_passOne_22 rfl ?_
          refine g_aloadN C 0 dX10_passOne_25 rfl rfl ?_
          refine g_ifnonnullN C dX10_passOne_27 rfl ?_
          refine g_iconst C (v := 0) dX10_passOne_30 (by decide) rfl ?_
          refine g_goto C dX10_passOne_31 (tgt := 44) (by decide) ?_
          refine g_iadd C dX10_passOne_44 rfl ?_
          refine pf_10_40 C (hTr.1) (v := .int ((pd1) + (0))) rfl rfl (Nat.le_of_ble_eq_true rfl) dX10_passOne_45 (pc' := 48) rfl (fun h45 e46 o47 => ?_)
          have hTr : TrAt D h45 (a) (s) (dr) (nI (da)) (sd) (wt) ((pd1) + (0)) (sp) := ⟨e46, (o47 _ (by omega)).trans hTr.2⟩
          have hSt : StAt D h45 (s) (tn) (nI (e)) (sl) := ⟨(o47 _ (by omega)).trans hSt.1, (o47 _ (by omega)).trans hSt.2⟩
          have hOK : OlOK D h45 (a + 1) s tn sl rd dn wn := hOK.fr (fun q g1 g2 => o47 q (by omega))
          have hpf : h45 (pp) = some (cQ D 4 pf) := (o47 _ (by omega)).trans hpf
          have hkp : ∀ i, i < np → kd i < 5 ∧ KpAt h45 (qa i) (kci (kd i)) (co i) (lo i) (pa i) := fun i hi => ⟨(hkp i hi).1, (o47 _ (by have := hqa i hi; omega)).trans (hkp i hi).2⟩
          have hO : ∀ q, (q < a ∨ a + 36 ≤ q) → h45 q = h q := fun q hq => (o47 q (by omega)).trans (hO q hq)
          refine g_iinc C (v := nI (i + 1)) 1 ([(3, .int (nI (i + 1))), (4, .null), (2, .int (nI (dN 1))), (0, .ref (a)), (1, .ref (pp))]) dX10_passOne_48 rfl (nI_1 _) (by decide) rfl rfl ?_
          refine g_goto C dX10_passOne_51 (tgt := 9) (by decide) ?_
          refine q_lsub [0, 2, 3, 4] (L' := [(3, .int (nI (i + 1))), (2, .int (nI (dN 1))), (0, .ref (a)), (1, .ref (pp))]) rfl ?_
          exact ih9 (i + 1) (h45) ((pd1) + (0)) (by omega) (by omega) (hTr) (hSt) (hOK) (hpf) (hkp) (hO) (by rw [hpd]; simp only [psF, if_neg (Nat.not_lt.mpr hin)])
  exact loop9 _ (0) (h) (pd) (Nat.lt_succ_self _) (by omega) (hTr) (hSt) (hOK) (hpf) (hkp) (hO) (rfl)

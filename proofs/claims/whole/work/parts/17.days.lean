/-! a day goes by; what is kept -/
def shR (rd : Nat → Int32) : Nat → Int32 := fun k => if k = 0 then rd 0 else if k = 1 then rd 2 else if k = 2 then rd 3 else if k = 3 then rd 4 else -1
noncomputable def dyV (σ : sg) (w i : Nat) : Int32 := payV (covS σ i) (gB σ 10 i) (gB σ 11 i) (nI w)
noncomputable def dyP (σ : sg) (w : Nat) : Nat → Int32 := fun j => if j < gN σ 8 then gB σ 12 j + dyV σ w j else gB σ 12 j
noncomputable def dyN (σ : sg) (w : Nat) : sg := uB (uB (uN (uI σ 5 (gI σ 5 + 1)) 6 w) 7 (shR (gB σ 7))) 12 (dyP σ w)
noncomputable def oDay (σ : sg) (v : Int32) : Int32 × sg := cIf (inP 0 2 v) (if 0 < gN σ 3 then (if 0 < oddF (stS σ) (gN σ 6) 1 v.toNatClampNeg then (gI σ 5 + 1, dyN σ v.toNatClampNeg) else (-103, σ)) else (-103, σ)) (-101, σ)
theorem shR_of {rd rd2 : Nat → Int32} (h1 : rd2 1 = rd 2) (h2 : rd2 2 = rd 3) (h3 : rd2 3 = rd 4) (h4 : rd2 4 = -1) (h0 : rd2 0 = rd 0) : ∀ j, j < 5 → rd2 j = shR rd j := lt5 h0 h1 h2 h3 h4
set_option maxHeartbeats 4000000 in
set_option maxRecDepth 100000 in
theorem k_X11_day (l : Launch) (D : va_G) (b z : Nat) {h : qH} {x : Nat} {σ : sg} (hC : Cls D h x σ) (v : Int32) : qMi l D b yX11_day cX11_day 4 .int 5 113 [.ref (x), .int (v)] h z (fun r h' => (r = (oDay σ v).1 ∧ Cls D h' x (oDay σ v).2) ∧ ∀ q, x + 118 ≤ q → q < x + 134 → h' q = h q) := by
  refine q_i (L := [(0, .ref (x)), (1, .int (v))]) (own := RX11) (by decide) rfl (Nat.le_of_ble_eq_true rfl) rfl ?_
  intro X C ret
  have hO : ∀ q, ((q < x + 5 ∨ x + 39 ≤ q) ∧ q < x + 134) → h q = h q := fun _ _ => rfl
  obtain ⟨hIn, hGa, hSt, hPg, hOl, hPe, hBk, hTr, hIm⟩ := id hC
  replace hGa : GaAt h x (nI (gN σ 1)) := hGa
  replace hSt : StAt D h (x + 1) (tnS σ) (nI (gN σ 3)) (nI (gN σ 4)) := hSt
  replace hPg : PgAt D h (x + 3) (gB σ 17) (nI (gN σ 16)) := hPg
  replace hBk : BkAt D h (x + 40) (gB σ 14) (gB σ 15) (nI (gN σ 13)) := hBk
  obtain ⟨hI0, hI3, hI03, hI4, hI6, hI8, hI13, hI16, hIt, hIk, hI1, hIim, hI25, hI26, hI08⟩ := id hIn
  have hOl1 := hOl.1.1
  obtain ⟨np, kd, co, lo, pa0, hnpE, hkdE, hcoE, hloE, hpaE⟩ : ∃ np kd co lo pa0, gN σ 8 = np ∧ gA σ 9 = kd ∧ gB σ 10 = co ∧ gB σ 11 = lo ∧ gB σ 12 = pa0 := ⟨_, _, _, _, _, rfl, rfl, rfl, rfl, rfl⟩
  obtain ⟨qa, hPe, hqx, hqj⟩ := hPe
  rw [hnpE, hkdE, hcoE, hloE, hpaE] at hPe
  rw [hnpE] at hqx hqj
  obtain ⟨hnp, ⟨pf, hpf, hpf1, hpf0⟩, hkp⟩ := hPe
  refine g_iload_n C 1 dX11_day_0 rfl rfl rfl ?_
  refine g_callSi C (As := [.int (v)]) (kp_X11_isWeather l D b z h (v)) hw_11_100 (by decide) rfl rfl (Nat.le_of_ble_eq_true rfl) ⟨Nat.zero_le _, Nat.zero_le _⟩ dX11_day_1 (pc' := 4) rfl ?_
  rintro r1 h9 ⟨⟨er, hp1⟩ | ⟨er, hp1⟩, e9⟩
  · subst h9; subst er
    have hp1_ := hp1
    obtain ⟨w, rfl, hp1a, hp1b⟩ := hp1_
    refine g_if_ne C dX11_day_4 (tgt := 10) (by decide) (pc' := 7) rfl (fun _ => ?_) (fun c4 => absurd c4 (by decide))
    refine g_aload_n C 0 dX11_day_10 rfl rfl rfl ?_
    refine gf_11_19 C (hGa) (v := .ref (x + 1)) rfl dX11_day_11 rfl ?_
    refine g_callVi C (As := []) (q := (RX9, TX9, 3)) (k_X9_isRead l D b z hIn.e hSt) hw_11_103 (hSt.1) rfl (by decide) rfl rfl (Nat.le_of_ble_eq_true rfl) ⟨Nat.zero_le _, Nat.zero_le _⟩ dX11_day_14 (pc' := 17) rfl ?_
    rintro r2 h9 ⟨⟨er, hp14⟩ | ⟨er, hp14⟩, e9⟩
    · subst h9; subst er
      refine g_if_eq C dX11_day_17 (tgt := 34) (by decide) (pc' := 20) rfl (fun c17 => absurd c17 (by decide)) (fun _ => ?_)
      have hOK := cl_ok hIn hOl hp14
      refine g_aload_n C 0 dX11_day_20 rfl rfl rfl ?_
      refine gf_11_28 C (hGa) (v := .ref (x + 5)) rfl dX11_day_21 rfl ?_
      refine g_iconst C (v := 1) dX11_day_24 (by decide) rfl ?_
      refine g_iload_n C 1 dX11_day_25 rfl rfl rfl ?_
      refine g_callVl C (As := [.int (1), .int (nI (w))]) (q := (RX7, TX7, 8)) (kS_X7_oddsOf l D b z hI6 hIn.e hSt hOK (k := 1) (w := w) (by omega) (by omega)) hw_11_120 (hOK.1.1) rfl (by decide) rfl rfl (Nat.le_of_ble_eq_true rfl) ⟨Nat.zero_le _, Nat.zero_le _⟩ dX11_day_26 (pc' := 29) rfl ?_
      rintro r3 h9 ⟨er, e9⟩
      subst h9; subst er
      refine g_lconst C (v := 0) dX11_day_29 (by decide) rfl ?_
      refine g_lcmp C dX11_day_30 rfl ?_
      refine g_if_gt C dX11_day_31 (tgt := 37) (by decide) (pc' := 34) rfl ?_ ?_
      · intro c31
        replace c31 := (lg_cmp_gt _ _).mp c31
        refine g_iconst C (v := 0) dX11_day_37 (by decide) rfl ?_
        refine g_istore_n C ([(2, .int (0)), (0, .ref (x)), (1, .int (nI (w)))]) dX11_day_38 rfl (by decide) rfl rfl ?_
        have loop39 : ∀ (N : Nat) (i : Nat) (h1 : qH) (pa : Nat → Int32), 4 - i < N → (i ≤ 4) → (GaAt h1 x (nI (gN σ 1))) → (StAt D h1 (x + 1) (tnS σ) (nI (gN σ 3)) (nI (gN σ 4))) → (OlOK D h1 (x + 5) (x + 1) (tnS σ) (nI (gN σ 4)) (gB σ 7) (gI σ 5) (gN σ 6)) → (h1 (x + 39) = some (cQ D 4 pf)) → (∀ i, i < np → kd i < 5 ∧ KpAt h1 (qa i) (kci (kd i)) (co i) (lo i) (pa i)) → (∀ q, ((q < x + 5 ∨ x + 39 ≤ q) ∧ q < x + 134) → h1 q = h q) → (∀ j, j < np → pa j = if j < i then pa0 j + dyV σ w j else pa0 j) → qG X 0 0 z h1 39 [(2, .int (nI (i))), (1, .int (nI (w))), (0, .ref (x))] [] := by
          intro N
          induction N with
          | zero => intro i h1 pa hm; exact absurd hm (Nat.not_lt_zero _)
          | succ N ih39 =>
            intro i h1 pa hm hi hGa hSt hOK hpf hkp hO hpd
            refine g_iload_n C 0 dX11_day_39 rfl rfl rfl ?_
            refine g_iconst C (v := 4) dX11_day_40 (by decide) rfl ?_
            refine g_icmp_ge C dX11_day_41 (tgt := 79) (by decide) (pc' := 44) rfl ?_ ?_
            · intro c41
              replace c41 := (nI_leI (a := 4) (b := i) (by omega) (by omega)).mp c41
              refine g_aload_n C 2 dX11_day_79 rfl rfl rfl ?_
              refine gf_11_28 C (hGa) (v := .ref (x + 5)) rfl dX11_day_80 rfl ?_
              refine g_iload_n C 1 dX11_day_83 rfl rfl rfl ?_
              refine g_callVv C (As := [.int (nI (w))]) (q := (RX7, TX7, 8)) (k_X7_passDay l D b z hOK.any hIn.e hSt (by omega) (f := w) (by omega)) hw_11_131 (hOK.1.1) rfl (by decide) rfl rfl (Nat.le_of_ble_eq_true rfl) ⟨Nat.zero_le _, Nat.zero_le _⟩ dX11_day_84 (pc' := 87) rfl ?_
              rintro h4 ⟨⟨rd', hOK, hr1, hr2, hr3, hr4, hr0⟩, fr⟩
              have hGa : GaAt h4 x (nI (gN σ 1)) := (fr _ (by omega)).trans hGa
              have hSt : StAt D h4 (x + 1) (tnS σ) (nI (gN σ 3)) (nI (gN σ 4)) := ⟨(fr _ (by omega)).trans hSt.1, (fr _ (by omega)).trans hSt.2⟩
              have hpf : h4 (x + 39) = some (cQ D 4 pf) := (fr _ (by omega)).trans hpf; have hkp : ∀ i, i < np → kd i < 5 ∧ KpAt h4 (qa i) (kci (kd i)) (co i) (lo i) (pa i) := fun i hi => ⟨(hkp i hi).1, (fr _ (by have := hqx i hi; omega)).trans (hkp i hi).2⟩
              have hO : ∀ q, ((q < x + 5 ∨ x + 39 ≤ q) ∧ q < x + 134) → h4 q = h q := fun q hq => (fr q (by omega)).trans (hO q hq)
              refine g_canon C (hOK.1.2) (g := shR (gB σ 7)) (shR_of hr1 hr2 hr3 hr4 hr0) (fun h5 e6 o7 => ?_)
              have hOK := hOK.canon (shR_of hr1 hr2 hr3 hr4 hr0) e6 o7
              have hGa : GaAt h5 x (nI (gN σ 1)) := (o7 _ (by omega)).trans hGa
              have hSt : StAt D h5 (x + 1) (tnS σ) (nI (gN σ 3)) (nI (gN σ 4)) := ⟨(o7 _ (by omega)).trans hSt.1, (o7 _ (by omega)).trans hSt.2⟩
              have hpf : h5 (x + 39) = some (cQ D 4 pf) := (o7 _ (by omega)).trans hpf
              have hkp : ∀ i, i < np → kd i < 5 ∧ KpAt h5 (qa i) (kci (kd i)) (co i) (lo i) (pa i) := fun i hi => ⟨(hkp i hi).1, (o7 _ (by have := hqx i hi; omega)).trans (hkp i hi).2⟩
              have hO : ∀ q, ((q < x + 5 ∨ x + 39 ≤ q) ∧ q < x + 134) → h5 q = h q := fun q hq => (o7 q (by omega)).trans (hO q hq)
              refine g_aload_n C 2 dX11_day_87 rfl rfl rfl ?_
              refine gf_11_28 C (hGa) (v := .ref (x + 5)) rfl dX11_day_88 rfl ?_
              refine gf_11_134 C (hOK.1.1) (v := .int (gI σ 5 + 1)) rfl dX11_day_91 rfl ?_
              exact ret _ _ _ _ dX11_day_94 rfl (⟨by unfold oDay; rw [cIf_t hp1, if_pos hp14, nIc (by omega), if_pos c31]; exact ⟨rfl, Cls_mk (InS_mk (hI0) (hI3) (hI03) (hI4) (by show w < 3; omega) (hI8) (hI13) (hI16) (hIt) (hIk) (hI1) (hIim) (hI25) (hI26) (hI08)) (ClGa.fr hC.2.1 (fun q g1 g2 => hO q (by omega))) (ClSt.fr hC.2.2.1 (fun q g1 g2 => hO q (by omega))) (ClPg.fr hC.2.2.2.1 (fun q g1 g2 => hO q (by omega))) (ClOl.st hOK) (⟨qa, ⟨by rw [← hnpE] at hnp; exact hnp, ⟨pf, hpf, fun i hi => hpf1 i (by rw [← hnpE]; exact hi), fun i hi => hpf0 i (by rw [← hnpE]; exact hi)⟩, fun i hi => by have hi2 : i < np := (by rw [← hnpE]; exact hi); obtain ⟨g1, g2⟩ := hkp i hi2; subst hkdE hcoE hloE hpaE; refine ⟨g1, ?_⟩; rw [hpd i hi2, if_pos (by omega)] at g2; show KpAt _ (qa i) (kci (gA σ 9 i)) (gB σ 10 i) (gB σ 11 i) (dyP σ w i); rw [show dyP σ w i = gB σ 12 i + dyV σ w i from if_pos hi]; exact g2⟩, fun i hi => hqx i (by rw [← hnpE]; exact hi), fun i j hi hj => hqj i j (by rw [← hnpE]; exact hi) (by rw [← hnpE]; exact hj)⟩) (ClBk.fr hC.2.2.2.2.2.2.1 (fun q g1 g2 => hO q (by omega))) (ClTr.fr hC.2.2.2.2.2.2.2.1 (fun q g1 g2 => hO q (by omega))) (ClIm.fr hC.2.2.2.2.2.2.2.2 (fun q g1 g2 => hO q (by omega)))⟩, fun q g1 g2 => hO q (by omega)⟩)
            · intro c41
              replace c41 := (not_congr (nI_leI (a := 4) (b := i) (by omega) (by omega))).mp c41
              rcases Nat.lt_or_ge i np with hin | hin
              · skip
                obtain ⟨hkd, hKp⟩ := hkp i hin
                refine g_aload_n C 2 dX11_day_44 rfl rfl rfl ?_
                refine gf_11_34 C (hGa) (v := .ref (x + 39)) rfl dX11_day_45 rfl ?_
                refine g_iload_n C 0 dX11_day_48 rfl rfl rfl ?_
                refine g_aaldQ C (hpf) (j := i) rfl (by omega) (by decide) (hpf1 _ hin) dX11_day_49 rfl ?_
                refine g_astore_n C ([(3, .ref (qa i)), (2, .int (nI (i))), (1, .int (nI (w))), (0, .ref (x))]) dX11_day_50 rfl (by decide) rfl rfl ?_
                refine g_aload_n C 0 dX11_day_51 rfl rfl rfl ?_
                refine g_ifnull C dX11_day_52 rfl ?_
                refine g_aload_n C 0 dX11_day_55 rfl rfl rfl ?_
                refine g_dup C rfl dX11_day_56 rfl ?_
                have JG57 : qG X 0 0 z h1 60 [(3, .ref (qa i)), (2, .int (nI (i))), (1, .int (nI (w))), (0, .ref (x))] [.int (pa i), .ref (qa i)] := by
                  refine g_aload_n C 0 dX11_day_60 rfl rfl rfl ?_
                  refine g_aload_n C 3 dX11_day_61 rfl rfl rfl ?_
                  refine gf_11_28 C (hGa) (v := .ref (x + 5)) rfl dX11_day_62 rfl ?_
                  refine g_iload_n C 2 dX11_day_65 rfl rfl rfl ?_
                  have J66 : ∀ r8 : Int32, ((covQ (kd i) (gB σ 7) (stS σ) (gN σ 6) (co i) (lo i) ∧ r8 = co i) ∨ (¬ covQ (kd i) (gB σ 7) (stS σ) (gN σ 6) (co i) (lo i) ∧ r8 = (if (nI (w)) = 1 then lo i else 0))) → qG X 0 0 z h1 69 [(3, .ref (qa i)), (2, .int (nI (i))), (1, .int (nI (w))), (0, .ref (x))] [.int (r8), .int (pa i), .ref (qa i)] := by
                    intro r8 hpk
                    refine g_iadd C dX11_day_69 rfl ?_
                    have JP70 : ∀ h9 : qH, h9 (qa i) = some (.inr (kci (kd i), [.int (co i), .int (lo i), .int ((pa i) + (r8))])) → (∀ q, q ≠ qa i → h9 q = h1 q) → qG X 0 0 z h9 73 [(3, .ref (qa i)), (2, .int (nI (i))), (1, .int (nI (w))), (0, .ref (x))] [] := by
                      intro h9 e9 o9
                      have hqi := hqx i hin
                      have hGa : GaAt h9 x (nI (gN σ 1)) := (o9 _ (by omega)).trans hGa
                      have hSt : StAt D h9 (x + 1) (tnS σ) (nI (gN σ 3)) (nI (gN σ 4)) := ⟨(o9 _ (by omega)).trans hSt.1, (o9 _ (by omega)).trans hSt.2⟩
                      have hOK : OlOK D h9 (x + 5) (x + 1) (tnS σ) (nI (gN σ 4)) (gB σ 7) (gI σ 5) (gN σ 6) := hOK.fr (fun q g1 g2 => o9 q (by omega))
                      have hpf : h9 (x + 39) = some (cQ D 4 pf) := (o9 _ (by omega)).trans hpf
                      have hkp : ∀ j, j < np → kd j < 5 ∧ KpAt h9 (qa j) (kci (kd j)) (co j) (lo j) (va_up pa i ((pa i) + (r8)) j) := fun j hj => ⟨(hkp j hj).1, by
                          by_cases e : j = i
                          · subst e; show h9 _ = _; rw [e9]; simp [va_up]
                          · show h9 _ = _; rw [o9 _ (fun g => e (hqj _ _ hj hin g))]; have := (hkp j hj).2; simp only [va_up, if_neg e]; exact this⟩
                      have hO : ∀ q, ((q < x + 5 ∨ x + 39 ≤ q) ∧ q < x + 134) → h9 q = h q := fun q hq => (o9 q (by omega)).trans (hO q hq)
                      refine g_iinc C (v := nI (i + 1)) 1 ([(2, .int (nI (i + 1))), (3, .ref (qa i)), (1, .int (nI (w))), (0, .ref (x))]) dX11_day_73 rfl (nI_1 _) (by decide) rfl rfl ?_
                      refine g_goto C dX11_day_76 (tgt := 39) (by decide) ?_
                      have hpk2 := payV_of hpk
                      refine q_lsub [0, 2, 3] (L' := [(2, .int (nI (i + 1))), (1, .int (nI (w))), (0, .ref (x))]) rfl ?_
                      exact ih39 (i + 1) (h9) (_) (by omega) (by omega) (hGa) (hSt) (hOK) (hpf) (hkp) (hO) (fun j hj => by
                          by_cases e : j = i
                          · subst e; simp only [va_up, if_true]; rw [if_pos (Nat.lt_succ_self _), hpk2, hpd _ hj, if_neg (Nat.lt_irrefl _)]; unfold dyV covS; rw [hkdE, hcoE, hloE]
                          · simp only [va_up, if_neg e]; rw [hpd j hj]; by_cases g : j < i; rw [if_pos g, if_pos (by omega)]; rw [if_neg g, if_neg (by omega)])
                    have hk5 : kd i = 0 ∨ kd i = 1 ∨ kd i = 2 ∨ kd i = 3 ∨ kd i = 4 := by have := hkd; omega
                    rcases hk5 with hk | hk | hk | hk | hk
                    · have hKp : KpAt h1 (qa i) 4 (co i) (lo i) (pa i) := by have g := hKp; rw [hk] at g; exact g
                      exact pf_11_124_4 C hKp (v := .int ((pa i) + (r8))) rfl rfl (Nat.le_of_ble_eq_true rfl) dX11_day_70 rfl (fun h9 e9 o9 => JP70 h9 (by rw [hk]; exact e9) o9)
                    · have hKp : KpAt h1 (qa i) 2 (co i) (lo i) (pa i) := by have g := hKp; rw [hk] at g; exact g
                      exact pf_11_124_2 C hKp (v := .int ((pa i) + (r8))) rfl rfl (Nat.le_of_ble_eq_true rfl) dX11_day_70 rfl (fun h9 e9 o9 => JP70 h9 (by rw [hk]; exact e9) o9)
                    · have hKp : KpAt h1 (qa i) 6 (co i) (lo i) (pa i) := by have g := hKp; rw [hk] at g; exact g
                      exact pf_11_124_6 C hKp (v := .int ((pa i) + (r8))) rfl rfl (Nat.le_of_ble_eq_true rfl) dX11_day_70 rfl (fun h9 e9 o9 => JP70 h9 (by rw [hk]; exact e9) o9)
                    · have hKp : KpAt h1 (qa i) 1 (co i) (lo i) (pa i) := by have g := hKp; rw [hk] at g; exact g
                      exact pf_11_124_1 C hKp (v := .int ((pa i) + (r8))) rfl rfl (Nat.le_of_ble_eq_true rfl) dX11_day_70 rfl (fun h9 e9 o9 => JP70 h9 (by rw [hk]; exact e9) o9)
                    · have hKp : KpAt h1 (qa i) 5 (co i) (lo i) (pa i) := by have g := hKp; rw [hk] at g; exact g
                      exact pf_11_124_5 C hKp (v := .int ((pa i) + (r8))) rfl rfl (Nat.le_of_ble_eq_true rfl) dX11_day_70 rfl (fun h9 e9 o9 => JP70 h9 (by rw [hk]; exact e9) o9)
                  have hk5 : kd i = 0 ∨ kd i = 1 ∨ kd i = 2 ∨ kd i = 3 ∨ kd i = 4 := by have := hkd; omega
                  rcases hk5 with hk | hk | hk | hk | hk
                  · have hKp : KpAt h1 (qa i) 4 (co i) (lo i) (pa i) := by have g := hKp; rw [hk] at g; exact g
                    refine g_callVi C (As := [.ref (x + 5), .int (nI (w))]) (q := (RX4, TX4, 3)) (k0_X4_payment l D b z hI6 hOK hKp (nI (w))) hw_11_127_4 (hKp) rfl (by decide) rfl rfl (Nat.le_of_ble_eq_true rfl) ⟨Nat.zero_le _, Nat.zero_le _⟩ dX11_day_66 (pc' := 69) rfl ?_
                    intro rr h9 hp9
                    obtain ⟨hp9, e9⟩ := hp9
                    subst h9
                    exact J66 rr (by rw [hk]; exact hp9)
                  · have hKp : KpAt h1 (qa i) 2 (co i) (lo i) (pa i) := by have g := hKp; rw [hk] at g; exact g
                    refine g_callUi C (As := [.ref (x + 5), .int (nI (w))]) (q := (RX2, TX2, 3)) (k1_X4_payment l D b z hI6 hOK hKp (nI (w))) hw_11_127_2 (hKp) rfl (by decide) rfl rfl (Nat.le_of_ble_eq_true rfl) ⟨Nat.zero_le _, Nat.zero_le _⟩ dX11_day_66 (pc' := 69) rfl ?_
                    intro rr h9 hp9
                    obtain ⟨hp9, e9⟩ := hp9
                    subst h9
                    exact J66 rr (by rw [hk]; exact hp9)
                  · have hKp : KpAt h1 (qa i) 6 (co i) (lo i) (pa i) := by have g := hKp; rw [hk] at g; exact g
                    refine g_callUi C (As := [.ref (x + 5), .int (nI (w))]) (q := (RX6, TX6, 3)) (k2_X4_payment l D b z hI6 hOK hKp (nI (w))) hw_11_127_6 (hKp) rfl (by decide) rfl rfl (Nat.le_of_ble_eq_true rfl) ⟨Nat.zero_le _, Nat.zero_le _⟩ dX11_day_66 (pc' := 69) rfl ?_
                    intro rr h9 hp9
                    obtain ⟨hp9, e9⟩ := hp9
                    subst h9
                    exact J66 rr (by rw [hk]; exact hp9)
                  · have hKp : KpAt h1 (qa i) 1 (co i) (lo i) (pa i) := by have g := hKp; rw [hk] at g; exact g
                    refine g_callUi C (As := [.ref (x + 5), .int (nI (w))]) (q := (RX1, TX1, 3)) (k3_X4_payment l D b z hI6 hOK hKp (nI (w))) hw_11_127_1 (hKp) rfl (by decide) rfl rfl (Nat.le_of_ble_eq_true rfl) ⟨Nat.zero_le _, Nat.zero_le _⟩ dX11_day_66 (pc' := 69) rfl ?_
                    intro rr h9 hp9
                    obtain ⟨hp9, e9⟩ := hp9
                    subst h9
                    exact J66 rr (by rw [hk]; exact hp9)
                  · have hKp : KpAt h1 (qa i) 5 (co i) (lo i) (pa i) := by have g := hKp; rw [hk] at g; exact g
                    refine g_callUi C (As := [.ref (x + 5), .int (nI (w))]) (q := (RX5, TX5, 3)) (k4_X4_payment l D b z hI6 hOK hKp (nI (w))) hw_11_127_5 (hKp) rfl (by decide) rfl rfl (Nat.le_of_ble_eq_true rfl) ⟨Nat.zero_le _, Nat.zero_le _⟩ dX11_day_66 (pc' := 69) rfl ?_
                    intro rr h9 hp9
                    obtain ⟨hp9, e9⟩ := hp9
                    subst h9
                    exact J66 rr (by rw [hk]; exact hp9)
                have hk5 : kd i = 0 ∨ kd i = 1 ∨ kd i = 2 ∨ kd i = 3 ∨ kd i = 4 := by have := hkd; omega
                rcases hk5 with hk | hk | hk | hk | hk
                · have hKp : KpAt h1 (qa i) 4 (co i) (lo i) (pa i) := by have g := hKp; rw [hk] at g; exact g
                  exact gf_11_124_4 C hKp (v := .int (pa i)) rfl dX11_day_57 rfl JG57
                · have hKp : KpAt h1 (qa i) 2 (co i) (lo i) (pa i) := by have g := hKp; rw [hk] at g; exact g
                  exact gf_11_124_2 C hKp (v := .int (pa i)) rfl dX11_day_57 rfl JG57
                · have hKp : KpAt h1 (qa i) 6 (co i) (lo i) (pa i) := by have g := hKp; rw [hk] at g; exact g
                  exact gf_11_124_6 C hKp (v := .int (pa i)) rfl dX11_day_57 rfl JG57
                · have hKp : KpAt h1 (qa i) 1 (co i) (lo i) (pa i) := by have g := hKp; rw [hk] at g; exact g
                  exact gf_11_124_1 C hKp (v := .int (pa i)) rfl dX11_day_57 rfl JG57
                · have hKp : KpAt h1 (qa i) 5 (co i) (lo i) (pa i) := by have g := hKp; rw [hk] at g; exact g
                  exact gf_11_124_5 C hKp (v := .int (pa i)) rfl dX11_day_57 rfl JG57
              · skip
                refine g_aload_n C 2 dX11_day_44 rfl rfl rfl ?_
                refine gf_11_34 C (hGa) (v := .ref (x + 39)) rfl dX11_day_45 rfl ?_
                refine g_iload_n C 0 dX11_day_48 rfl rfl rfl ?_
                refine g_aaldQN C (hpf) (j := i) rfl (by omega) (by decide) (hpf0 _ hin (by omega)) dX11_day_49 rfl ?_
                refine g_astore_nN C ([(3, .null), (2, .int (nI (i))), (1, .int (nI (w))), (0, .ref (x))]) dX11_day_50 rfl (by decide) rfl rfl ?_
                refine g_aload_nN C 0 dX11_day_51 rfl rfl rfl ?_
                refine g_ifnullN C dX11_day_52 (tgt := 73) (by decide) ?_
                refine g_iinc C (v := nI (i + 1)) 1 ([(2, .int (nI (i + 1))), (3, .null), (1, .int (nI (w))), (0, .ref (x))]) dX11_day_73 rfl (nI_1 _) (by decide) rfl rfl ?_
                refine g_goto C dX11_day_76 (tgt := 39) (by decide) ?_
                refine q_lsub [0, 2, 3] (L' := [(2, .int (nI (i + 1))), (1, .int (nI (w))), (0, .ref (x))]) rfl ?_
                exact ih39 (i + 1) (h1) (pa) (by omega) (by omega) (hGa) (hSt) (hOK) (hpf) (hkp) (hO) (fun j hj => by rw [hpd j hj]; by_cases g : j < i; rw [if_pos g, if_pos (by omega)]; rw [if_neg g, if_neg (by omega)])
        refine q_lsub [0, 2, 1] (L' := [(2, .int (0)), (1, .int (nI (w))), (0, .ref (x))]) rfl ?_
        exact loop39 _ (0) (h) (pa0) (Nat.lt_succ_self _) (by omega) (hGa) (hSt) (hOK) (hpf) (hkp) (hO) (fun j hj => (if_neg (Nat.not_lt_zero _)).symm)
      · intro c31
        replace c31 := (not_congr (lg_cmp_gt _ _)).mp c31
        refine g_bipush C (v := -103) dX11_day_34 (by decide) rfl ?_
        exact ret _ _ _ _ dX11_day_36 rfl (⟨by unfold oDay; rw [cIf_t hp1, if_pos hp14, nIc (by omega), if_neg c31]; exact ⟨rfl, hC⟩, fun _ _ _ => rfl⟩)
    · subst h9; subst er
      refine g_if_eq C dX11_day_17 (tgt := 34) (by decide) (pc' := 20) rfl (fun _ => ?_) (fun c17 => absurd (by decide) c17)
      refine g_bipush C (v := -103) dX11_day_34 (by decide) rfl ?_
      exact ret _ _ _ _ dX11_day_36 rfl (⟨by unfold oDay; rw [cIf_t hp1, if_neg hp14]; exact ⟨rfl, hC⟩, fun _ _ _ => rfl⟩)
  · subst h9; subst er
    refine g_if_ne C dX11_day_4 (tgt := 10) (by decide) (pc' := 7) rfl (fun c4 => absurd (by decide) c4) (fun _ => ?_)
    refine g_bipush C (v := -101) dX11_day_7 (by decide) rfl ?_
    exact ret _ _ _ _ dX11_day_9 rfl (⟨by unfold oDay; rw [cIf_f hp1]; exact ⟨rfl, hC⟩, fun _ _ _ => rfl⟩)

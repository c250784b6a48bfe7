/-! an image, and back to it -/
theorem BkAt.canon {D : va_G} {h h1 h2 : qH} {a : Nat} {ws rs ws2 rs2 : Nat → Int32} {n : Int32} (H : BkAt D h a ws rs n) (e1 : h1 (a + 1) = some (cI D 12 ws2)) (o1 : ∀ q, q ≠ a + 1 → h1 q = h q) (e2 : h2 (a + 2) = some (cI D 12 rs2)) (o2 : ∀ q, q ≠ a + 2 → h2 q = h1 q) : BkAt D h2 a ws2 rs2 n := ⟨(o2 _ (by omega)).trans ((o1 _ (by omega)).trans H.1), (o2 _ (by omega)).trans e1, e2⟩
def imN (σ : sg) : sg := uB (uB (uB (uB (uN (uN (uN (uN (uN (uI σ 27 (gI σ 5)) 25 1) 26 (gN σ 1)) 28 (gN σ 6)) 29 (gN σ 8)) 30 (gN σ 13)) 31 (gB σ 7)) 32 (gB σ 12)) 33 (gB σ 14)) 34 (gB σ 15)
def oImage (σ : sg) : Int32 × sg := if 0 < gN σ 3 then (gI σ 5, imN σ) else (-103, σ)
set_option maxHeartbeats 4000000 in
set_option maxRecDepth 100000 in
theorem kk_X11_countPeople (l : Launch) (D : va_G) (b z : Nat) {h : qH} {x np : Nat} {n0 : Int32} {qa : Nat → Nat} {pf : Nat → Option Nat} (hGa : GaAt h x n0) (hnp : np ≤ 4) (hpf : h (x + 39) = some (cQ D 4 pf)) (hpf1 : ∀ i, i < np → pf i = some (qa i)) (hpf0 : ∀ i, np ≤ i → i < 4 → pf i = none) : qMi l D b yX11_countPeople cX11_countPeople 3 .int 0 0 [.ref (x)] h z (fun r h' => r = nI np ∧ h' = h) := by
  refine q_i (L := [(0, .ref (x))]) (own := RX11) (by decide) rfl (Nat.le_of_ble_eq_true rfl) rfl ?_
  intro X C ret
  refine g_iconst C (v := 0) dX11_countPeople_0 (by decide) rfl ?_
  refine g_istore_n C ([(1, .int (0)), (0, .ref (x))]) dX11_countPeople_1 rfl (by decide) rfl rfl ?_
  refine g_iconst C (v := 0) dX11_countPeople_2 (by decide) rfl ?_
  refine g_istore_n C ([(2, .int (0)), (1, .int (0)), (0, .ref (x))]) dX11_countPeople_3 rfl (by decide) rfl rfl ?_
  have loop4 : ∀ (N : Nat) (i : Nat) (c : Nat), 4 - i < N → (i ≤ 4) → (c = min i np) → qG X 0 0 z h 4 [(2, .int (nI (i))), (1, .int (nI (c))), (0, .ref (x))] [] := by
    intro N
    induction N with
    | zero => intro i c hm; exact absurd hm (Nat.not_lt_zero _)
    | succ N ih4 =>
      intro i c hm hi hc
      refine g_iload_n C 0 dX11_countPeople_4 rfl rfl rfl ?_
      refine g_iconst C (v := 4) dX11_countPeople_5 (by decide) rfl ?_
      refine g_icmp_ge C dX11_countPeople_6 (tgt := 32) (by decide) (pc' := 9) rfl ?_ ?_
      · intro c6
        replace c6 := (nI_leI (a := 4) (b := i) (by omega) (by omega)).mp c6
        refine g_iload_n C 1 dX11_countPeople_32 rfl rfl rfl ?_
        exact ret _ _ _ _ dX11_countPeople_33 rfl (⟨by rw [show c = np by omega], rfl⟩)
      · intro c6
        replace c6 := (not_congr (nI_leI (a := 4) (b := i) (by omega) (by omega))).mp c6
        rcases Nat.lt_or_ge i np with hin | hin
        · skip
          refine g_iload_n C 1 dX11_countPeople_9 rfl rfl rfl ?_
          refine g_aload_n C 2 dX11_countPeople_10 rfl rfl rfl ?_
          refine gf_11_34 C (hGa) (v := .ref (x + 39)) rfl dX11_countPeople_11 rfl ?_
          refine g_iload_n C 0 dX11_countPeople_14 rfl rfl rfl ?_
          refine g_aaldQ C (hpf) (j := i) rfl (by omega) (by decide) (hpf1 _ hin) dX11_countPeople_15 rfl ?_
          refine g_ifnonnull C dX11_countPeople_16 (tgt := 23) (by decide) ?_
          refine g_iconst C (v := 1) dX11_countPeople_23 (by decide) rfl ?_
          refine g_iadd C dX11_countPeople_24 rfl ?_
          refine g_topi (y := nI (c + 1)) (nI_1 c) ?_
          refine g_istore_n C ([(1, .int (nI (c + 1))), (2, .int (nI (i))), (0, .ref (x))]) dX11_countPeople_25 rfl (by decide) rfl rfl ?_
          refine g_iinc C (v := nI (i + 1)) 1 ([(2, .int (nI (i + 1))), (1, .int (nI (c + 1))), (0, .ref (x))]) dX11_countPeople_26 rfl (nI_1 _) (by decide) rfl rfl ?_
          refine g_goto C dX11_countPeople_29 (tgt := 4) (by decide) ?_
          exact ih4 (i + 1) (c + 1) (by omega) (by omega) (by omega)
        · skip
          refine g_iload_n C 1 dX11_countPeople_9 rfl rfl rfl ?_
          refine g_aload_n C 2 dX11_countPeople_10 rfl rfl rfl ?_
          refine gf_11_34 C (hGa) (v := .ref (x + 39)) rfl dX11_countPeople_11 rfl ?_
          refine g_iload_n C 0 dX11_countPeople_14 rfl rfl rfl ?_
          refine g_aaldQN C (hpf) (j := i) rfl (by omega) (by decide) (hpf0 _ hin (by omega)) dX11_countPeople_15 rfl ?_
          refine g_ifnonnullN C dX11_countPeople_16 rfl ?_
          refine g_iconst C (v := 0) dX11_countPeople_19 (by decide) rfl ?_
          refine g_goto C dX11_countPeople_20 (tgt := 24) (by decide) ?_
          refine g_iadd C dX11_countPeople_24 rfl ?_
          refine g_topi (y := nI c) (by first | rfl | exact (nI_add c 0).trans rfl | simp) ?_
          refine g_istore_n C ([(1, .int (nI c)), (2, .int (nI (i))), (0, .ref (x))]) dX11_countPeople_25 rfl (by decide) rfl rfl ?_
          refine g_iinc C (v := nI (i + 1)) 1 ([(2, .int (nI (i + 1))), (1, .int (nI c)), (0, .ref (x))]) dX11_countPeople_26 rfl (nI_1 _) (by decide) rfl rfl ?_
          refine g_goto C dX11_countPeople_29 (tgt := 4) (by decide) ?_
          exact ih4 (i + 1) (c) (by omega) (by omega) (by omega)
  exact loop4 _ (0) (0) (Nat.lt_succ_self _) (by omega) (by omega)
set_option maxHeartbeats 4000000 in
set_option maxRecDepth 100000 in
theorem k_X11_image (l : Launch) (D : va_G) (b z : Nat) {h : qH} {x : Nat} {σ : sg} (hC : Cls D h x σ) : qMi l D b yX11_image cX11_image 3 .int 5 113 [.ref (x)] h z (fun r h' => (r = (oImage σ).1 ∧ Cls D h' x (oImage σ).2) ∧ ∀ q, x + 118 ≤ q → q < x + 134 → h' q = h q) := by
  refine q_i (L := [(0, .ref (x))]) (own := RX11) (by decide) rfl (Nat.le_of_ble_eq_true rfl) rfl ?_
  intro X C ret
  have hO : ∀ q, (q < x + 79 ∨ x + 118 ≤ q) → h q = h q := fun _ _ => rfl
  obtain ⟨hIn, hGa, hSt, hPg, hOl, hPe, hBk, hTr, hIm⟩ := id hC
  replace hGa : GaAt h x (nI (gN σ 1)) := hGa
  replace hSt : StAt D h (x + 1) (tnS σ) (nI (gN σ 3)) (nI (gN σ 4)) := hSt
  replace hPg : PgAt D h (x + 3) (gB σ 17) (nI (gN σ 16)) := hPg
  replace hBk : BkAt D h (x + 40) (gB σ 14) (gB σ 15) (nI (gN σ 13)) := hBk
  obtain ⟨hI0, hI3, hI03, hI4, hI6, hI8, hI13, hI16, hIt, hIk, hI1, hIim, hI25, hI26, hI08⟩ := id hIn
  have hOl1 := hOl.1.1
  obtain ⟨np, kd, co, lo, pa, hnpE, hkdE, hcoE, hloE, hpaE⟩ : ∃ np kd co lo pa, gN σ 8 = np ∧ gA σ 9 = kd ∧ gB σ 10 = co ∧ gB σ 11 = lo ∧ gB σ 12 = pa := ⟨_, _, _, _, _, rfl, rfl, rfl, rfl, rfl⟩
  obtain ⟨qa, hPe, hqx, hqj⟩ := hPe
  rw [hnpE, hkdE, hcoE, hloE, hpaE] at hPe
  rw [hnpE] at hqx hqj
  obtain ⟨hnp, ⟨pf, hpf, hpf1, hpf0⟩, hkp⟩ := hPe
  obtain ⟨pd, pp, kp, rd0, dn0, w0, ws0, rs0, n0, hIm, hIo, hIb, hkp2, hkiff, hkim⟩ := hIm
  replace hIo : OlAny D h (x + 79 + 1) (x + 1) rd0 dn0 w0 := hIo
  replace hIb : BkAt D h (x + 79 + 35) ws0 rs0 n0 := hIb
  refine g_aload_n C 0 dX11_image_0 rfl rfl rfl ?_
  refine gf_11_19 C (hGa) (v := .ref (x + 1)) rfl dX11_image_1 rfl ?_
  refine g_callVi C (As := []) (q := (RX9, TX9, 3)) (k_X9_isRead l D b z hIn.e hSt) hw_11_103 (hSt.1) rfl (by decide) rfl rfl (Nat.le_of_ble_eq_true rfl) ⟨Nat.zero_le _, Nat.zero_le _⟩ dX11_image_4 (pc' := 7) rfl ?_
  rintro r1 h9 ⟨⟨er, hp4⟩ | ⟨er, hp4⟩, e9⟩
  · subst h9; subst er
    refine g_if_ne C dX11_image_7 (tgt := 13) (by decide) (pc' := 10) rfl (fun _ => ?_) (fun c7 => absurd c7 (by decide))
    refine g_aload_n C 0 dX11_image_13 rfl rfl rfl ?_
    refine gf_11_59 C (hGa) (v := .ref (x + 79)) rfl dX11_image_14 rfl ?_
    refine gf_11_234 C (hIm.1) (v := .ref (x + 79 + 1)) rfl dX11_image_17 rfl ?_
    refine g_aload_n C 0 dX11_image_20 rfl rfl rfl ?_
    refine gf_11_28 C (hGa) (v := .ref (x + 5)) rfl dX11_image_21 rfl ?_
    refine g_callVv C (As := [.ref (x + 5)]) (q := (RX7, TX7, 8)) (k_X7_copyFrom l D b z hIo hIn.e hSt (by omega) (wno := gN σ 6) hI6 hOl1 (by omega)) hw_11_235 (hIo.1.1) rfl (by decide) rfl rfl (Nat.le_of_ble_eq_true rfl) ⟨Nat.zero_le _, Nat.zero_le _⟩ dX11_image_24 (pc' := 27) rfl ?_
    rintro h2 ⟨⟨rd', hIo, hrd⟩, fr⟩
    have hGa : GaAt h2 x (nI (gN σ 1)) := (fr _ (by omega)).trans hGa
    have hSt : StAt D h2 (x + 1) (tnS σ) (nI (gN σ 3)) (nI (gN σ 4)) := ⟨(fr _ (by omega)).trans hSt.1, (fr _ (by omega)).trans hSt.2⟩
    have hOl1 : OlAt D h2 (x + 5) (x + 1) (gB σ 7) (gI σ 5) (nI (gN σ 6)) := ⟨(fr _ (by omega)).trans hOl1.1, (fr _ (by omega)).trans hOl1.2⟩
    have hpf : h2 (x + 39) = some (cQ D 4 pf) := (fr _ (by omega)).trans hpf; have hkp : ∀ i, i < np → kd i < 5 ∧ KpAt h2 (qa i) (kci (kd i)) (co i) (lo i) (pa i) := fun i hi => ⟨(hkp i hi).1, (fr _ (by have := hqx i hi; omega)).trans (hkp i hi).2⟩
    have hBk : BkAt D h2 (x + 40) (gB σ 14) (gB σ 15) (nI (gN σ 13)) := ⟨(fr _ (by omega)).trans hBk.1, (fr _ (by omega)).trans hBk.2.1, (fr _ (by omega)).trans hBk.2.2⟩
    have hIb : BkAt D h2 (x + 79 + 35) (ws0) (rs0) (n0) := ⟨(fr _ (by omega)).trans hIb.1, (fr _ (by omega)).trans hIb.2.1, (fr _ (by omega)).trans hIb.2.2⟩
    have hIm : ImAt D h2 (x + 79) (pd) (pp) (nI (kp)) := ⟨(fr _ (by omega)).trans hIm.1, (fr _ (by omega)).trans hIm.2⟩
    have hO : ∀ q, (q < x + 79 ∨ x + 118 ≤ q) → h2 q = h q := fun q hq => (fr q (by omega)).trans (hO q hq)
    refine g_canon C (hIo.1.2) (g := (gB σ 7)) (hrd) (fun h3 e4 o5 => ?_)
    have hIo := hIo.canon hrd e4 o5
    have hGa : GaAt h3 x (nI (gN σ 1)) := (o5 _ (by omega)).trans hGa
    have hSt : StAt D h3 (x + 1) (tnS σ) (nI (gN σ 3)) (nI (gN σ 4)) := ⟨(o5 _ (by omega)).trans hSt.1, (o5 _ (by omega)).trans hSt.2⟩
    have hOl1 : OlAt D h3 (x + 5) (x + 1) (gB σ 7) (gI σ 5) (nI (gN σ 6)) := ⟨(o5 _ (by omega)).trans hOl1.1, (o5 _ (by omega)).trans hOl1.2⟩
    have hpf : h3 (x + 39) = some (cQ D 4 pf) := (o5 _ (by omega)).trans hpf
    have hkp : ∀ i, i < np → kd i < 5 ∧ KpAt h3 (qa i) (kci (kd i)) (co i) (lo i) (pa i) := fun i hi => ⟨(hkp i hi).1, (o5 _ (by have := hqx i hi; omega)).trans (hkp i hi).2⟩
    have hBk : BkAt D h3 (x + 40) (gB σ 14) (gB σ 15) (nI (gN σ 13)) := ⟨(o5 _ (by omega)).trans hBk.1, (o5 _ (by omega)).trans hBk.2.1, (o5 _ (by omega)).trans hBk.2.2⟩
    have hIb : BkAt D h3 (x + 79 + 35) (ws0) (rs0) (n0) := ⟨(o5 _ (by omega)).trans hIb.1, (o5 _ (by omega)).trans hIb.2.1, (o5 _ (by omega)).trans hIb.2.2⟩
    have hIm : ImAt D h3 (x + 79) (pd) (pp) (nI (kp)) := ⟨(o5 _ (by omega)).trans hIm.1, (o5 _ (by omega)).trans hIm.2⟩
    have hO : ∀ q, (q < x + 79 ∨ x + 118 ≤ q) → h3 q = h q := fun q hq => (o5 q (by omega)).trans (hO q hq)
    refine g_aload_n C 0 dX11_image_27 rfl rfl rfl ?_
    refine gf_11_59 C (hGa) (v := .ref (x + 79)) rfl dX11_image_28 rfl ?_
    refine gf_11_239 C (hIm.1) (v := .ref (x + 79 + 35)) rfl dX11_image_31 rfl ?_
    refine g_aload_n C 0 dX11_image_34 rfl rfl rfl ?_
    refine gf_11_41 C (hGa) (v := .ref (x + 40)) rfl dX11_image_35 rfl ?_
    refine g_callVv C (As := [.ref (x + 40)]) (q := (RX0, TX0, 3)) (k_X0_copyFrom l D b z hIb hBk (by omega)) hw_11_240 (hIb.1) rfl (by decide) rfl rfl (Nat.le_of_ble_eq_true rfl) ⟨Nat.zero_le _, Nat.zero_le _⟩ dX11_image_38 (pc' := 41) rfl ?_
    rintro h6 ⟨⟨w2, r2, hIb, hw2, hr2⟩, fr⟩
    have hGa : GaAt h6 x (nI (gN σ 1)) := (fr _ (by omega)).trans hGa
    have hSt : StAt D h6 (x + 1) (tnS σ) (nI (gN σ 3)) (nI (gN σ 4)) := ⟨(fr _ (by omega)).trans hSt.1, (fr _ (by omega)).trans hSt.2⟩
    have hOl1 : OlAt D h6 (x + 5) (x + 1) (gB σ 7) (gI σ 5) (nI (gN σ 6)) := ⟨(fr _ (by omega)).trans hOl1.1, (fr _ (by omega)).trans hOl1.2⟩
    have hpf : h6 (x + 39) = some (cQ D 4 pf) := (fr _ (by omega)).trans hpf; have hkp : ∀ i, i < np → kd i < 5 ∧ KpAt h6 (qa i) (kci (kd i)) (co i) (lo i) (pa i) := fun i hi => ⟨(hkp i hi).1, (fr _ (by have := hqx i hi; omega)).trans (hkp i hi).2⟩
    have hBk : BkAt D h6 (x + 40) (gB σ 14) (gB σ 15) (nI (gN σ 13)) := ⟨(fr _ (by omega)).trans hBk.1, (fr _ (by omega)).trans hBk.2.1, (fr _ (by omega)).trans hBk.2.2⟩
    have hIo : OlOK D h6 (x + 79 + 1) (x + 1) (tnS σ) (nI (gN σ 4)) (gB σ 7) (gI σ 5) (gN σ 6) := hIo.fr (fun q g1 g2 => fr q (by omega))
    have hIm : ImAt D h6 (x + 79) (pd) (pp) (nI (kp)) := ⟨(fr _ (by omega)).trans hIm.1, (fr _ (by omega)).trans hIm.2⟩
    have hO : ∀ q, (q < x + 79 ∨ x + 118 ≤ q) → h6 q = h q := fun q hq => (fr q (by omega)).trans (hO q hq)
    refine g_canon C (hIb.2.1) (g := gB σ 14) (hw2) (fun h7 e8 o9 => ?_)
    have hIb : BkAt D h7 (x + 79 + 35) (gB σ 14) (r2) (nI (gN σ 13)) := ⟨(o9 _ (by omega)).trans hIb.1, e8, (o9 _ (by omega)).trans hIb.2.2⟩
    have hGa : GaAt h7 x (nI (gN σ 1)) := (o9 _ (by omega)).trans hGa
    have hSt : StAt D h7 (x + 1) (tnS σ) (nI (gN σ 3)) (nI (gN σ 4)) := ⟨(o9 _ (by omega)).trans hSt.1, (o9 _ (by omega)).trans hSt.2⟩
    have hOl1 : OlAt D h7 (x + 5) (x + 1) (gB σ 7) (gI σ 5) (nI (gN σ 6)) := ⟨(o9 _ (by omega)).trans hOl1.1, (o9 _ (by omega)).trans hOl1.2⟩
    have hpf : h7 (x + 39) = some (cQ D 4 pf) := (o9 _ (by omega)).trans hpf
    have hkp : ∀ i, i < np → kd i < 5 ∧ KpAt h7 (qa i) (kci (kd i)) (co i) (lo i) (pa i) := fun i hi => ⟨(hkp i hi).1, (o9 _ (by have := hqx i hi; omega)).trans (hkp i hi).2⟩
    have hBk : BkAt D h7 (x + 40) (gB σ 14) (gB σ 15) (nI (gN σ 13)) := ⟨(o9 _ (by omega)).trans hBk.1, (o9 _ (by omega)).trans hBk.2.1, (o9 _ (by omega)).trans hBk.2.2⟩
    have hIo : OlOK D h7 (x + 79 + 1) (x + 1) (tnS σ) (nI (gN σ 4)) (gB σ 7) (gI σ 5) (gN σ 6) := hIo.fr (fun q g1 g2 => o9 q (by omega))
    have hIm : ImAt D h7 (x + 79) (pd) (pp) (nI (kp)) := ⟨(o9 _ (by omega)).trans hIm.1, (o9 _ (by omega)).trans hIm.2⟩
    have hO : ∀ q, (q < x + 79 ∨ x + 118 ≤ q) → h7 q = h q := fun q hq => (o9 q (by omega)).trans (hO q hq)
    refine g_canon C (hIb.2.2) (g := gB σ 15) (hr2) (fun h10 e11 o12 => ?_)
    have hIb : BkAt D h10 (x + 79 + 35) (gB σ 14) (gB σ 15) (nI (gN σ 13)) := ⟨(o12 _ (by omega)).trans hIb.1, (o12 _ (by omega)).trans hIb.2.1, e11⟩
    have hGa : GaAt h10 x (nI (gN σ 1)) := (o12 _ (by omega)).trans hGa
    have hSt : StAt D h10 (x + 1) (tnS σ) (nI (gN σ 3)) (nI (gN σ 4)) := ⟨(o12 _ (by omega)).trans hSt.1, (o12 _ (by omega)).trans hSt.2⟩
    have hOl1 : OlAt D h10 (x + 5) (x + 1) (gB σ 7) (gI σ 5) (nI (gN σ 6)) := ⟨(o12 _ (by omega)).trans hOl1.1, (o12 _ (by omega)).trans hOl1.2⟩
    have hpf : h10 (x + 39) = some (cQ D 4 pf) := (o12 _ (by omega)).trans hpf
    have hkp : ∀ i, i < np → kd i < 5 ∧ KpAt h10 (qa i) (kci (kd i)) (co i) (lo i) (pa i) := fun i hi => ⟨(hkp i hi).1, (o12 _ (by have := hqx i hi; omega)).trans (hkp i hi).2⟩
    have hBk : BkAt D h10 (x + 40) (gB σ 14) (gB σ 15) (nI (gN σ 13)) := ⟨(o12 _ (by omega)).trans hBk.1, (o12 _ (by omega)).trans hBk.2.1, (o12 _ (by omega)).trans hBk.2.2⟩
    have hIo : OlOK D h10 (x + 79 + 1) (x + 1) (tnS σ) (nI (gN σ 4)) (gB σ 7) (gI σ 5) (gN σ 6) := hIo.fr (fun q g1 g2 => o12 q (by omega))
    have hIm : ImAt D h10 (x + 79) (pd) (pp) (nI (kp)) := ⟨(o12 _ (by omega)).trans hIm.1, (o12 _ (by omega)).trans hIm.2⟩
    have hO : ∀ q, (q < x + 79 ∨ x + 118 ≤ q) → h10 q = h q := fun q hq => (o12 q (by omega)).trans (hO q hq)
    refine g_aload_n C 0 dX11_image_41 rfl rfl rfl ?_
    refine gf_11_59 C (hGa) (v := .ref (x + 79)) rfl dX11_image_42 rfl ?_
    refine g_aload_n C 0 dX11_image_45 rfl rfl rfl ?_
    refine g_callVi C (As := []) (q := (RX11, TX11, 8)) (kk_X11_countPeople l D b z hGa hnp hpf hpf1 hpf0) hw_11_243 (hGa) rfl (by decide) rfl rfl (Nat.le_of_ble_eq_true rfl) ⟨Nat.zero_le _, Nat.zero_le _⟩ dX11_image_46 (pc' := 49) rfl ?_
    rintro r13 h9 ⟨er, e9⟩
    subst h9; subst er
    refine pf_11_246 C (hIm.1) (v := .int (nI (np))) rfl rfl (Nat.le_of_ble_eq_true rfl) dX11_image_49 (pc' := 52) rfl (fun h14 e15 o16 => ?_)
    have hIm : ImAt D h14 (x + 79) (pd) (nI (np)) (nI (kp)) := ⟨e15, (o16 _ (by omega)).trans hIm.2⟩
    have hGa : GaAt h14 x (nI (gN σ 1)) := (o16 _ (by omega)).trans hGa
    have hSt : StAt D h14 (x + 1) (tnS σ) (nI (gN σ 3)) (nI (gN σ 4)) := ⟨(o16 _ (by omega)).trans hSt.1, (o16 _ (by omega)).trans hSt.2⟩
    have hOl1 : OlAt D h14 (x + 5) (x + 1) (gB σ 7) (gI σ 5) (nI (gN σ 6)) := ⟨(o16 _ (by omega)).trans hOl1.1, (o16 _ (by omega)).trans hOl1.2⟩
    have hpf : h14 (x + 39) = some (cQ D 4 pf) := (o16 _ (by omega)).trans hpf
    have hkp : ∀ i, i < np → kd i < 5 ∧ KpAt h14 (qa i) (kci (kd i)) (co i) (lo i) (pa i) := fun i hi => ⟨(hkp i hi).1, (o16 _ (by have := hqx i hi; omega)).trans (hkp i hi).2⟩
    have hBk : BkAt D h14 (x + 40) (gB σ 14) (gB σ 15) (nI (gN σ 13)) := ⟨(o16 _ (by omega)).trans hBk.1, (o16 _ (by omega)).trans hBk.2.1, (o16 _ (by omega)).trans hBk.2.2⟩
    have hIo : OlOK D h14 (x + 79 + 1) (x + 1) (tnS σ) (nI (gN σ 4)) (gB σ 7) (gI σ 5) (gN σ 6) := hIo.fr (fun q g1 g2 => o16 q (by omega))
    have hIb : BkAt D h14 (x + 79 + 35) (gB σ 14) (gB σ 15) (nI (gN σ 13)) := ⟨(o16 _ (by omega)).trans hIb.1, (o16 _ (by omega)).trans hIb.2.1, (o16 _ (by omega)).trans hIb.2.2⟩
    have hO : ∀ q, (q < x + 79 ∨ x + 118 ≤ q) → h14 q = h q := fun q hq => (o16 q (by omega)).trans (hO q hq)
    refine g_iconst C (v := 0) dX11_image_52 (by decide) rfl ?_
    refine g_istore_n C ([(1, .int (0)), (0, .ref (x))]) dX11_image_53 rfl (by decide) rfl rfl ?_
    have loop54 : ∀ (N : Nat) (i : Nat) (h1 : qH) (pd1 : Nat → Int32), 4 - i < N → (i ≤ 4) → (GaAt h1 x (nI (gN σ 1))) → (StAt D h1 (x + 1) (tnS σ) (nI (gN σ 3)) (nI (gN σ 4))) → (OlAt D h1 (x + 5) (x + 1) (gB σ 7) (gI σ 5) (nI (gN σ 6))) → (h1 (x + 39) = some (cQ D 4 pf)) → (∀ i, i < np → kd i < 5 ∧ KpAt h1 (qa i) (kci (kd i)) (co i) (lo i) (pa i)) → (BkAt D h1 (x + 40) (gB σ 14) (gB σ 15) (nI (gN σ 13))) → (OlOK D h1 (x + 79 + 1) (x + 1) (tnS σ) (nI (gN σ 4)) (gB σ 7) (gI σ 5) (gN σ 6)) → (BkAt D h1 (x + 79 + 35) (gB σ 14) (gB σ 15) (nI (gN σ 13))) → (ImAt D h1 (x + 79) (pd1) (nI (np)) (nI (kp))) → (∀ q, (q < x + 79 ∨ x + 118 ≤ q) → h1 q = h q) → (∀ j, j < i → pd1 j = if j < np then pa j else 0) → qG X 0 0 z h1 54 [(1, .int (nI (i))), (0, .ref (x))] [] := by
      intro N
      induction N with
      | zero => intro i h1 pd1 hm; exact absurd hm (Nat.not_lt_zero _)
      | succ N ih54 =>
        intro i h1 pd1 hm hi hGa hSt hOl1 hpf hkp hBk hIo hIb hIm hO hpd
        refine g_iload_n C 0 dX11_image_54 rfl rfl rfl ?_
        refine g_iconst C (v := 4) dX11_image_55 (by decide) rfl ?_
        refine g_icmp_ge C dX11_image_56 (tgt := 93) (by decide) (pc' := 59) rfl ?_ ?_
        · intro c56
          replace c56 := (nI_leI (a := 4) (b := i) (by omega) (by omega)).mp c56
          refine g_aload_n C 1 dX11_image_93 rfl rfl rfl ?_
          refine gf_11_59 C (hGa) (v := .ref (x + 79)) rfl dX11_image_94 rfl ?_
          refine g_iconst C (v := 1) dX11_image_97 (by decide) rfl ?_
          refine pf_11_90 C (hIm.1) (v := .int (1)) rfl rfl (Nat.le_of_ble_eq_true rfl) dX11_image_98 (pc' := 101) rfl (fun h17 e18 o19 => ?_)
          have hIm : ImAt D h17 (x + 79) (pd1) (nI (np)) (1) := ⟨e18, (o19 _ (by omega)).trans hIm.2⟩
          have hGa : GaAt h17 x (nI (gN σ 1)) := (o19 _ (by omega)).trans hGa
          have hSt : StAt D h17 (x + 1) (tnS σ) (nI (gN σ 3)) (nI (gN σ 4)) := ⟨(o19 _ (by omega)).trans hSt.1, (o19 _ (by omega)).trans hSt.2⟩
          have hOl1 : OlAt D h17 (x + 5) (x + 1) (gB σ 7) (gI σ 5) (nI (gN σ 6)) := ⟨(o19 _ (by omega)).trans hOl1.1, (o19 _ (by omega)).trans hOl1.2⟩
          have hpf : h17 (x + 39) = some (cQ D 4 pf) := (o19 _ (by omega)).trans hpf
          have hkp : ∀ i, i < np → kd i < 5 ∧ KpAt h17 (qa i) (kci (kd i)) (co i) (lo i) (pa i) := fun i hi => ⟨(hkp i hi).1, (o19 _ (by have := hqx i hi; omega)).trans (hkp i hi).2⟩
          have hBk : BkAt D h17 (x + 40) (gB σ 14) (gB σ 15) (nI (gN σ 13)) := ⟨(o19 _ (by omega)).trans hBk.1, (o19 _ (by omega)).trans hBk.2.1, (o19 _ (by omega)).trans hBk.2.2⟩
          have hIo : OlOK D h17 (x + 79 + 1) (x + 1) (tnS σ) (nI (gN σ 4)) (gB σ 7) (gI σ 5) (gN σ 6) := hIo.fr (fun q g1 g2 => o19 q (by omega))
          have hIb : BkAt D h17 (x + 79 + 35) (gB σ 14) (gB σ 15) (nI (gN σ 13)) := ⟨(o19 _ (by omega)).trans hIb.1, (o19 _ (by omega)).trans hIb.2.1, (o19 _ (by omega)).trans hIb.2.2⟩
          have hO : ∀ q, (q < x + 79 ∨ x + 118 ≤ q) → h17 q = h q := fun q hq => (o19 q (by omega)).trans (hO q hq)
          refine g_aload_n C 1 dX11_image_101 rfl rfl rfl ?_
          refine gf_11_28 C (hGa) (v := .ref (x + 5)) rfl dX11_image_102 rfl ?_
          refine gf_11_134 C (hOl1.1) (v := .int (gI σ 5)) rfl dX11_image_105 rfl ?_
          exact ret _ _ _ _ dX11_image_108 rfl (⟨by unfold oImage; rw [if_pos hp4]; exact ⟨rfl, Cls_mk (InS_mk (hI0) (hI3) (hI03) (hI4) (hI6) (hI8) (hI13) (hI16) (hIt) (hIk) (hI1) (fun _ => ⟨hI03.mpr (by omega), hI6, Nat.le_refl _, hI13⟩) (Nat.le_refl _) (Nat.le_refl _) (hI08)) (ClGa.fr hC.2.1 (fun q g1 g2 => hO q (by omega))) (ClSt.fr hC.2.2.1 (fun q g1 g2 => hO q (by omega))) (ClPg.fr hC.2.2.2.1 (fun q g1 g2 => hO q (by omega))) (ClOl.fr hC.2.2.2.2.1 (fun q g1 g2 => hO q (by omega))) (ClPe.fr hC.2.2.2.2.2.1 (fun q g => hO q (by omega))) (ClBk.fr hC.2.2.2.2.2.2.1 (fun q g1 g2 => hO q (by omega))) (ClTr.fr hC.2.2.2.2.2.2.2.1 (fun q g1 g2 => hO q (by omega))) (⟨pd1, nI np, 1, gB σ 7, gI σ 5, nI (gN σ 6), gB σ 14, gB σ 15, nI (gN σ 13), hIm, hIo.any, hIb, by decide, ⟨fun _ => ⟨rfl, rfl⟩, fun _ => rfl⟩, fun _ => ⟨fun j hj => by have hj2 : j < np := (by rw [← hnpE]; exact hj); rw [hpd j (by omega), if_pos hj2, ← hpaE]; rfl, by rw [← hnpE]; rfl, rfl, rfl, rfl, rfl, rfl, rfl⟩⟩)⟩, fun q g1 g2 => hO q (by omega)⟩)
        · intro c56
          replace c56 := (not_congr (nI_leI (a := 4) (b := i) (by omega) (by omega))).mp c56
          rcases Nat.lt_or_ge i np with hin | hin
          · skip
            obtain ⟨hkd, hKp⟩ := hkp i hin
            have hqi := hqx i hin
            refine g_aload_n C 1 dX11_image_59 rfl rfl rfl ?_
            refine gf_11_34 C (hGa) (v := .ref (x + 39)) rfl dX11_image_60 rfl ?_
            refine g_iload_n C 0 dX11_image_63 rfl rfl rfl ?_
            refine g_aaldQ C (hpf) (j := i) rfl (by omega) (by decide) (hpf1 _ hin) dX11_image_64 rfl ?_
            refine g_astore_n C ([(2, .ref (qa i)), (1, .int (nI (i))), (0, .ref (x))]) dX11_image_65 rfl (by decide) rfl rfl ?_
            refine g_aload_n C 2 dX11_image_66 rfl rfl rfl ?_
            refine gf_11_59 C (hGa) (v := .ref (x + 79)) rfl dX11_image_67 rfl ?_
            refine gf_11_248 C (hIm.1) (v := .ref (x + 79 + 38)) rfl dX11_image_70 rfl ?_
            refine g_iload_n C 1 dX11_image_73 rfl rfl rfl ?_
            refine g_aload_n C 0 dX11_image_74 rfl rfl rfl ?_
            refine g_ifnonnull C dX11_image_75 (tgt := 82) (by decide) ?_
            refine g_aload_n C 0 dX11_image_82 rfl rfl rfl ?_
            have JG83 : qG X 0 0 z h1 86 [(2, .ref (qa i)), (1, .int (nI (i))), (0, .ref (x))] [.int (pa i), .int (nI (i)), .ref (x + 79 + 38)] := by
              refine g_iast' C (hIm.2) (j := i) rfl (by omega) (by decide) dX11_image_86 (pc' := 87) rfl (fun h20 e21 o22 => ?_)
              have hIm : ImAt D h20 (x + 79) (upd (pd1) (i) (pa i)) (nI (np)) (nI (kp)) := ⟨(o22 _ (by omega)).trans hIm.1, e21⟩
              have hGa : GaAt h20 x (nI (gN σ 1)) := (o22 _ (by omega)).trans hGa
              have hSt : StAt D h20 (x + 1) (tnS σ) (nI (gN σ 3)) (nI (gN σ 4)) := ⟨(o22 _ (by omega)).trans hSt.1, (o22 _ (by omega)).trans hSt.2⟩
              have hOl1 : OlAt D h20 (x + 5) (x + 1) (gB σ 7) (gI σ 5) (nI (gN σ 6)) := ⟨(o22 _ (by omega)).trans hOl1.1, (o22 _ (by omega)).trans hOl1.2⟩
              have hpf : h20 (x + 39) = some (cQ D 4 pf) := (o22 _ (by omega)).trans hpf
              have hkp : ∀ i, i < np → kd i < 5 ∧ KpAt h20 (qa i) (kci (kd i)) (co i) (lo i) (pa i) := fun i hi => ⟨(hkp i hi).1, (o22 _ (by have := hqx i hi; omega)).trans (hkp i hi).2⟩
              have hBk : BkAt D h20 (x + 40) (gB σ 14) (gB σ 15) (nI (gN σ 13)) := ⟨(o22 _ (by omega)).trans hBk.1, (o22 _ (by omega)).trans hBk.2.1, (o22 _ (by omega)).trans hBk.2.2⟩
              have hIo : OlOK D h20 (x + 79 + 1) (x + 1) (tnS σ) (nI (gN σ 4)) (gB σ 7) (gI σ 5) (gN σ 6) := hIo.fr (fun q g1 g2 => o22 q (by omega))
              have hIb : BkAt D h20 (x + 79 + 35) (gB σ 14) (gB σ 15) (nI (gN σ 13)) := ⟨(o22 _ (by omega)).trans hIb.1, (o22 _ (by omega)).trans hIb.2.1, (o22 _ (by omega)).trans hIb.2.2⟩
              have hO : ∀ q, (q < x + 79 ∨ x + 118 ≤ q) → h20 q = h q := fun q hq => (o22 q (by omega)).trans (hO q hq)
              have hKp : KpAt h20 (qa i) (kci (kd i)) (co i) (lo i) (pa i) := (o22 _ (by omega)).trans hKp
              refine g_iinc C (v := nI (i + 1)) 1 ([(1, .int (nI (i + 1))), (2, .ref (qa i)), (0, .ref (x))]) dX11_image_87 rfl (nI_1 _) (by decide) rfl rfl ?_
              refine g_goto C dX11_image_90 (tgt := 54) (by decide) ?_
              refine q_lsub [0, 2] (L' := [(1, .int (nI (i + 1))), (0, .ref (x))]) rfl ?_
              exact ih54 (i + 1) (h20) (upd (pd1) (i) (pa i)) (by omega) (by omega) (hGa) (hSt) (hOl1) (hpf) (hkp) (hBk) (hIo) (hIb) (hIm) (hO) (fun j hj => by
                  by_cases e : j = i
                  · subst e; simp only [upd, if_true]; rw [if_pos hin]
                  · simp only [upd, if_neg e]; exact hpd j (by omega))
            have hk5 : kd i = 0 ∨ kd i = 1 ∨ kd i = 2 ∨ kd i = 3 ∨ kd i = 4 := by have := hkd; omega
            rcases hk5 with hk | hk | hk | hk | hk
            · have hKp : KpAt h1 (qa i) 4 (co i) (lo i) (pa i) := by have g := hKp; rw [hk] at g; exact g
              exact gf_11_124_4 C hKp (v := .int (pa i)) rfl dX11_image_83 rfl JG83
            · have hKp : KpAt h1 (qa i) 2 (co i) (lo i) (pa i) := by have g := hKp; rw [hk] at g; exact g
              exact gf_11_124_2 C hKp (v := .int (pa i)) rfl dX11_image_83 rfl JG83
            · have hKp : KpAt h1 (qa i) 6 (co i) (lo i) (pa i) := by have g := hKp; rw [hk] at g; exact g
              exact gf_11_124_6 C hKp (v := .int (pa i)) rfl dX11_image_83 rfl JG83
            · have hKp : KpAt h1 (qa i) 1 (co i) (lo i) (pa i) := by have g := hKp; rw [hk] at g; exact g
              exact gf_11_124_1 C hKp (v := .int (pa i)) rfl dX11_image_83 rfl JG83
            · have hKp : KpAt h1 (qa i) 5 (co i) (lo i) (pa i) := by have g := hKp; rw [hk] at g; exact g
              exact gf_11_124_5 C hKp (v := .int (pa i)) rfl dX11_image_83 rfl JG83
          · skip
            refine g_aload_n C 1 dX11_image_59 rfl rfl rfl ?_
            refine gf_11_34 C (hGa) (v := .ref (x + 39)) rfl dX11_image_60 rfl ?_
            refine g_iload_n C 0 dX11_image_63 rfl rfl rfl ?_
            refine g_aaldQN C (hpf) (j := i) rfl (by omega) (by decide) (hpf0 _ hin (by omega)) dX11_image_64 rfl ?_
            refine g_astore_nN C ([(2, .null), (1, .int (nI (i))), (0, .ref (x))]) dX11_image_65 rfl (by decide) rfl rfl ?_
            refine g_aload_n C 2 dX11_image_66 rfl rfl rfl ?_
            refine gf_11_59 C (hGa) (v := .ref (x + 79)) rfl dX11_image_67 rfl ?_
            refine gf_11_248 C (hIm.1) (v := .ref (x + 79 + 38)) rfl dX11_image_70 rfl ?_
            refine g_iload_n C 1 dX11_image_73 rfl rfl rfl ?_
            refine g_aload_nN C 0 dX11_image_74 rfl rfl rfl ?_
            refine g_ifnonnullN C dX11_image_75 rfl ?_
            refine g_iconst C (v := 0) dX11_image_78 (by decide) rfl ?_
            refine g_goto C dX11_image_79 (tgt := 86) (by decide) ?_
            refine g_iast' C (hIm.2) (j := i) rfl (by omega) (by decide) dX11_image_86 (pc' := 87) rfl (fun h23 e24 o25 => ?_)
            have hIm : ImAt D h23 (x + 79) (upd (pd1) (i) (0)) (nI (np)) (nI (kp)) := ⟨(o25 _ (by omega)).trans hIm.1, e24⟩
            have hGa : GaAt h23 x (nI (gN σ 1)) := (o25 _ (by omega)).trans hGa
            have hSt : StAt D h23 (x + 1) (tnS σ) (nI (gN σ 3)) (nI (gN σ 4)) := ⟨(o25 _ (by omega)).trans hSt.1, (o25 _ (by omega)).trans hSt.2⟩
            have hOl1 : OlAt D h23 (x + 5) (x + 1) (gB σ 7) (gI σ 5) (nI (gN σ 6)) := ⟨(o25 _ (by omega)).trans hOl1.1, (o25 _ (by omega)).trans hOl1.2⟩
            have hpf : h23 (x + 39) = some (cQ D 4 pf) := (o25 _ (by omega)).trans hpf
            have hkp : ∀ i, i < np → kd i < 5 ∧ KpAt h23 (qa i) (kci (kd i)) (co i) (lo i) (pa i) := fun i hi => ⟨(hkp i hi).1, (o25 _ (by have := hqx i hi; omega)).trans (hkp i hi).2⟩
            have hBk : BkAt D h23 (x + 40) (gB σ 14) (gB σ 15) (nI (gN σ 13)) := ⟨(o25 _ (by omega)).trans hBk.1, (o25 _ (by omega)).trans hBk.2.1, (o25 _ (by omega)).trans hBk.2.2⟩
            have hIo : OlOK D h23 (x + 79 + 1) (x + 1) (tnS σ) (nI (gN σ 4)) (gB σ 7) (gI σ 5) (gN σ 6) := hIo.fr (fun q g1 g2 => o25 q (by omega))
            have hIb : BkAt D h23 (x + 79 + 35) (gB σ 14) (gB σ 15) (nI (gN σ 13)) := ⟨(o25 _ (by omega)).trans hIb.1, (o25 _ (by omega)).trans hIb.2.1, (o25 _ (by omega)).trans hIb.2.2⟩
            have hO : ∀ q, (q < x + 79 ∨ x + 118 ≤ q) → h23 q = h q := fun q hq => (o25 q (by omega)).trans (hO q hq)
            refine g_iinc C (v := nI (i + 1)) 1 ([(1, .int (nI (i + 1))), (2, .null), (0, .ref (x))]) dX11_image_87 rfl (nI_1 _) (by decide) rfl rfl ?_
            refine g_goto C dX11_image_90 (tgt := 54) (by decide) ?_
            refine q_lsub [0, 2] (L' := [(1, .int (nI (i + 1))), (0, .ref (x))]) rfl ?_
            exact ih54 (i + 1) (h23) (upd (pd1) (i) (0)) (by omega) (by omega) (hGa) (hSt) (hOl1) (hpf) (hkp) (hBk) (hIo) (hIb) (hIm) (hO) (fun j hj => by
                by_cases e : j = i
                · subst e; simp only [upd, if_true]; rw [if_neg (Nat.not_lt.mpr hin)]
                · simp only [upd, if_neg e]; exact hpd j (by omega))
    exact loop54 _ (0) (h14) (pd) (Nat.lt_succ_self _) (by omega) (hGa) (hSt) (hOl1) (hpf) (hkp) (hBk) (hIo) (hIb) (hIm) (hO) (fun j hj => absurd hj (Nat.not_lt_zero _))
  · subst h9; subst er
    refine g_if_ne C dX11_image_7 (tgt := 13) (by decide) (pc' := 10) rfl (fun c7 => absurd (by decide) c7) (fun _ => ?_)
    refine g_bipush C (v := -103) dX11_image_10 (by decide) rfl ?_
    exact ret _ _ _ _ dX11_image_12 rfl (⟨by unfold oImage; rw [if_neg hp4]; exact ⟨rfl, hC⟩, fun _ _ _ => rfl⟩)
def rsN (σ : sg) : sg := uB (uB (uB (uB (uN (uN (uN (uI σ 5 (gI σ 27)) 6 (gN σ 28)) 8 (gN σ 29)) 13 (gN σ 30)) 7 (gB σ 31)) 12 (gB σ 32)) 14 (gB σ 33)) 15 (gB σ 34)
noncomputable def oRestore (σ : sg) : Int32 × sg := cIf (imK σ) (gI σ 27, rsN σ) (-103, σ)
set_option maxHeartbeats 4000000 in
set_option maxRecDepth 100000 in
theorem k_X11_restore (l : Launch) (D : va_G) (b z : Nat) {h : qH} {x : Nat} {σ : sg} (hC : Cls D h x σ) : qMi l D b yX11_restore cX11_restore 3 .int 5 113 [.ref (x)] h z (fun r h' => (r = (oRestore σ).1 ∧ Cls D h' x (oRestore σ).2) ∧ ∀ q, x + 118 ≤ q → q < x + 134 → h' q = h q) := by
  refine q_i (L := [(0, .ref (x))]) (own := RX11) (by decide) rfl (Nat.le_of_ble_eq_true rfl) rfl ?_
  intro X C ret
  have hO : ∀ q, ((x + 1 ≤ q ∧ (q < x + 5 ∨ x + 43 ≤ q) ∧ q < x + 134) ∨ q = x) → h q = h q := fun _ _ => rfl
  obtain ⟨hIn, hGa, hSt, hPg, hOl, hPe, hBk, hTr, hIm⟩ := id hC
  replace hGa : GaAt h x (nI (gN σ 1)) := hGa
  replace hSt : StAt D h (x + 1) (tnS σ) (nI (gN σ 3)) (nI (gN σ 4)) := hSt
  replace hPg : PgAt D h (x + 3) (gB σ 17) (nI (gN σ 16)) := hPg
  replace hBk : BkAt D h (x + 40) (gB σ 14) (gB σ 15) (nI (gN σ 13)) := hBk
  obtain ⟨hI0, hI3, hI03, hI4, hI6, hI8, hI13, hI16, hIt, hIk, hI1, hIim, hI25, hI26, hI08⟩ := id hIn
  have hOl1 := hOl.1.1
  have hAny := hOl.1
  obtain ⟨np, kd, co, lo, pa, hnpE, hkdE, hcoE, hloE, hpaE⟩ : ∃ np kd co lo pa, gN σ 8 = np ∧ gA σ 9 = kd ∧ gB σ 10 = co ∧ gB σ 11 = lo ∧ gB σ 12 = pa := ⟨_, _, _, _, _, rfl, rfl, rfl, rfl, rfl⟩
  obtain ⟨qa, hPe, hqx, hqj⟩ := hPe
  rw [hnpE, hkdE, hcoE, hloE, hpaE] at hPe
  rw [hnpE] at hqx hqj
  obtain ⟨hnp, ⟨pf, hpf, hpf1, hpf0⟩, hkp⟩ := hPe
  obtain ⟨pa0, hpa0E⟩ : ∃ f : Nat → Int32, pa = f := ⟨_, rfl⟩
  obtain ⟨pd, pp, kp, rd0, dn0, w0, ws0, rs0, n0, hIm, hIo, hIb, hkp2, hkiff, hkim⟩ := hIm
  replace hIo : OlAny D h (x + 79 + 1) (x + 1) rd0 dn0 w0 := hIo
  replace hIb : BkAt D h (x + 79 + 35) ws0 rs0 n0 := hIb
  refine g_aload_n C 0 dX11_restore_0 rfl rfl rfl ?_
  refine gf_11_59 C (hGa) (v := .ref (x + 79)) rfl dX11_restore_1 rfl ?_
  refine gf_11_90 C (hIm.1) (v := .int (nI (kp))) rfl dX11_restore_4 rfl ?_
  refine g_if_ne C dX11_restore_7 (tgt := 13) (by decide) (pc' := 10) rfl ?_ ?_
  · intro c7
    replace c7 := (not_congr (nI_eq (a := kp) (b := 0) (by omega) (by omega))).mp c7
    have hk := hkiff.mp (by omega : kp = 1)
    obtain ⟨hpdI, rfl, rfl, rfl, rfl, rfl, rfl, rfl⟩ := hkim hk
    obtain ⟨h01, h28, h29, h30⟩ := hIim hk
    refine g_aload_n C 0 dX11_restore_13 rfl rfl rfl ?_
    refine gf_11_28 C (hGa) (v := .ref (x + 5)) rfl dX11_restore_14 rfl ?_
    refine g_aload_n C 0 dX11_restore_17 rfl rfl rfl ?_
    refine gf_11_59 C (hGa) (v := .ref (x + 79)) rfl dX11_restore_18 rfl ?_
    refine gf_11_234 C (hIm.1) (v := .ref (x + 79 + 1)) rfl dX11_restore_21 rfl ?_
    refine g_callVv C (As := [.ref (x + 79 + 1)]) (q := (RX7, TX7, 8)) (k_X7_copyFrom l D b z hAny hIn.e hSt (by omega) (wno := gN σ 28) h28 hIo.1 (by omega)) hw_11_235 (hAny.1.1) rfl (by decide) rfl rfl (Nat.le_of_ble_eq_true rfl) ⟨Nat.zero_le _, Nat.zero_le _⟩ dX11_restore_24 (pc' := 27) rfl ?_
    rintro h1 ⟨⟨rd', hOK, hrd⟩, fr⟩
    have hGa : GaAt h1 x (nI (gN σ 1)) := (fr _ (by omega)).trans hGa
    have hSt : StAt D h1 (x + 1) (tnS σ) (nI (gN σ 3)) (nI (gN σ 4)) := ⟨(fr _ (by omega)).trans hSt.1, (fr _ (by omega)).trans hSt.2⟩
    have hpf : h1 (x + 39) = some (cQ D 4 pf) := (fr _ (by omega)).trans hpf; have hkp : ∀ i, i < np → kd i < 5 ∧ KpAt h1 (qa i) (kci (kd i)) (co i) (lo i) (pa i) := fun i hi => ⟨(hkp i hi).1, (fr _ (by have := hqx i hi; omega)).trans (hkp i hi).2⟩
    have hBk : BkAt D h1 (x + 40) (gB σ 14) (gB σ 15) (nI (gN σ 13)) := ⟨(fr _ (by omega)).trans hBk.1, (fr _ (by omega)).trans hBk.2.1, (fr _ (by omega)).trans hBk.2.2⟩
    have hIo : OlAny D h1 (x + 79 + 1) (x + 1) (gB σ 31) (gI σ 27) (nI (gN σ 28)) := hIo.fr (fun q g1 g2 => fr q (by omega))
    have hIb : BkAt D h1 (x + 79 + 35) (gB σ 33) (gB σ 34) (nI (gN σ 30)) := ⟨(fr _ (by omega)).trans hIb.1, (fr _ (by omega)).trans hIb.2.1, (fr _ (by omega)).trans hIb.2.2⟩
    have hIm : ImAt D h1 (x + 79) (pd) (nI (gN σ 29)) (nI (kp)) := ⟨(fr _ (by omega)).trans hIm.1, (fr _ (by omega)).trans hIm.2⟩
    have hO : ∀ q, ((x + 1 ≤ q ∧ (q < x + 5 ∨ x + 43 ≤ q) ∧ q < x + 134) ∨ q = x) → h1 q = h q := fun q hq => (fr q (by omega)).trans (hO q hq)
    refine g_canon C (hOK.1.2) (g := (gB σ 31)) (hrd) (fun h2 e3 o4 => ?_)
    have hOK := hOK.canon hrd e3 o4
    have hGa : GaAt h2 x (nI (gN σ 1)) := (o4 _ (by omega)).trans hGa
    have hSt : StAt D h2 (x + 1) (tnS σ) (nI (gN σ 3)) (nI (gN σ 4)) := ⟨(o4 _ (by omega)).trans hSt.1, (o4 _ (by omega)).trans hSt.2⟩
    have hpf : h2 (x + 39) = some (cQ D 4 pf) := (o4 _ (by omega)).trans hpf
    have hkp : ∀ i, i < np → kd i < 5 ∧ KpAt h2 (qa i) (kci (kd i)) (co i) (lo i) (pa i) := fun i hi => ⟨(hkp i hi).1, (o4 _ (by have := hqx i hi; omega)).trans (hkp i hi).2⟩
    have hBk : BkAt D h2 (x + 40) (gB σ 14) (gB σ 15) (nI (gN σ 13)) := ⟨(o4 _ (by omega)).trans hBk.1, (o4 _ (by omega)).trans hBk.2.1, (o4 _ (by omega)).trans hBk.2.2⟩
    have hIo : OlAny D h2 (x + 79 + 1) (x + 1) (gB σ 31) (gI σ 27) (nI (gN σ 28)) := hIo.fr (fun q g1 g2 => o4 q (by omega))
    have hIb : BkAt D h2 (x + 79 + 35) (gB σ 33) (gB σ 34) (nI (gN σ 30)) := ⟨(o4 _ (by omega)).trans hIb.1, (o4 _ (by omega)).trans hIb.2.1, (o4 _ (by omega)).trans hIb.2.2⟩
    have hIm : ImAt D h2 (x + 79) (pd) (nI (gN σ 29)) (nI (kp)) := ⟨(o4 _ (by omega)).trans hIm.1, (o4 _ (by omega)).trans hIm.2⟩
    have hO : ∀ q, ((x + 1 ≤ q ∧ (q < x + 5 ∨ x + 43 ≤ q) ∧ q < x + 134) ∨ q = x) → h2 q = h q := fun q hq => (o4 q (by omega)).trans (hO q hq)
    refine g_aload_n C 0 dX11_restore_27 rfl rfl rfl ?_
    refine gf_11_41 C (hGa) (v := .ref (x + 40)) rfl dX11_restore_28 rfl ?_
    refine g_aload_n C 0 dX11_restore_31 rfl rfl rfl ?_
    refine gf_11_59 C (hGa) (v := .ref (x + 79)) rfl dX11_restore_32 rfl ?_
    refine gf_11_239 C (hIm.1) (v := .ref (x + 79 + 35)) rfl dX11_restore_35 rfl ?_
    refine g_callVv C (As := [.ref (x + 79 + 35)]) (q := (RX0, TX0, 3)) (k_X0_copyFrom l D b z hBk hIb (by omega)) hw_11_240 (hBk.1) rfl (by decide) rfl rfl (Nat.le_of_ble_eq_true rfl) ⟨Nat.zero_le _, Nat.zero_le _⟩ dX11_restore_38 (pc' := 41) rfl ?_
    rintro h5 ⟨⟨w2, r2, hBk, hw2, hr2⟩, fr⟩
    have hGa : GaAt h5 x (nI (gN σ 1)) := (fr _ (by omega)).trans hGa
    have hSt : StAt D h5 (x + 1) (tnS σ) (nI (gN σ 3)) (nI (gN σ 4)) := ⟨(fr _ (by omega)).trans hSt.1, (fr _ (by omega)).trans hSt.2⟩
    have hOK : OlOK D h5 (x + 5) (x + 1) (tnS σ) (nI (gN σ 4)) (gB σ 31) (gI σ 27) (gN σ 28) := hOK.fr (fun q g1 g2 => fr q (by omega))
    have hpf : h5 (x + 39) = some (cQ D 4 pf) := (fr _ (by omega)).trans hpf; have hkp : ∀ i, i < np → kd i < 5 ∧ KpAt h5 (qa i) (kci (kd i)) (co i) (lo i) (pa i) := fun i hi => ⟨(hkp i hi).1, (fr _ (by have := hqx i hi; omega)).trans (hkp i hi).2⟩
    have hIo : OlAny D h5 (x + 79 + 1) (x + 1) (gB σ 31) (gI σ 27) (nI (gN σ 28)) := hIo.fr (fun q g1 g2 => fr q (by omega))
    have hIb : BkAt D h5 (x + 79 + 35) (gB σ 33) (gB σ 34) (nI (gN σ 30)) := ⟨(fr _ (by omega)).trans hIb.1, (fr _ (by omega)).trans hIb.2.1, (fr _ (by omega)).trans hIb.2.2⟩
    have hIm : ImAt D h5 (x + 79) (pd) (nI (gN σ 29)) (nI (kp)) := ⟨(fr _ (by omega)).trans hIm.1, (fr _ (by omega)).trans hIm.2⟩
    have hO : ∀ q, ((x + 1 ≤ q ∧ (q < x + 5 ∨ x + 43 ≤ q) ∧ q < x + 134) ∨ q = x) → h5 q = h q := fun q hq => (fr q (by omega)).trans (hO q hq)
    refine g_canon C (hBk.2.1) (g := gB σ 33) (hw2) (fun h6 e7 o8 => ?_)
    have hBk : BkAt D h6 (x + 40) (gB σ 33) (r2) (nI (gN σ 30)) := ⟨(o8 _ (by omega)).trans hBk.1, e7, (o8 _ (by omega)).trans hBk.2.2⟩
    have hGa : GaAt h6 x (nI (gN σ 1)) := (o8 _ (by omega)).trans hGa
    have hSt : StAt D h6 (x + 1) (tnS σ) (nI (gN σ 3)) (nI (gN σ 4)) := ⟨(o8 _ (by omega)).trans hSt.1, (o8 _ (by omega)).trans hSt.2⟩
    have hOK : OlOK D h6 (x + 5) (x + 1) (tnS σ) (nI (gN σ 4)) (gB σ 31) (gI σ 27) (gN σ 28) := hOK.fr (fun q g1 g2 => o8 q (by omega))
    have hpf : h6 (x + 39) = some (cQ D 4 pf) := (o8 _ (by omega)).trans hpf
    have hkp : ∀ i, i < np → kd i < 5 ∧ KpAt h6 (qa i) (kci (kd i)) (co i) (lo i) (pa i) := fun i hi => ⟨(hkp i hi).1, (o8 _ (by have := hqx i hi; omega)).trans (hkp i hi).2⟩
    have hIo : OlAny D h6 (x + 79 + 1) (x + 1) (gB σ 31) (gI σ 27) (nI (gN σ 28)) := hIo.fr (fun q g1 g2 => o8 q (by omega))
    have hIb : BkAt D h6 (x + 79 + 35) (gB σ 33) (gB σ 34) (nI (gN σ 30)) := ⟨(o8 _ (by omega)).trans hIb.1, (o8 _ (by omega)).trans hIb.2.1, (o8 _ (by omega)).trans hIb.2.2⟩
    have hIm : ImAt D h6 (x + 79) (pd) (nI (gN σ 29)) (nI (kp)) := ⟨(o8 _ (by omega)).trans hIm.1, (o8 _ (by omega)).trans hIm.2⟩
    have hO : ∀ q, ((x + 1 ≤ q ∧ (q < x + 5 ∨ x + 43 ≤ q) ∧ q < x + 134) ∨ q = x) → h6 q = h q := fun q hq => (o8 q (by omega)).trans (hO q hq)
    refine g_canon C (hBk.2.2) (g := gB σ 34) (hr2) (fun h9 e10 o11 => ?_)
    have hBk : BkAt D h9 (x + 40) (gB σ 33) (gB σ 34) (nI (gN σ 30)) := ⟨(o11 _ (by omega)).trans hBk.1, (o11 _ (by omega)).trans hBk.2.1, e10⟩
    have hGa : GaAt h9 x (nI (gN σ 1)) := (o11 _ (by omega)).trans hGa
    have hSt : StAt D h9 (x + 1) (tnS σ) (nI (gN σ 3)) (nI (gN σ 4)) := ⟨(o11 _ (by omega)).trans hSt.1, (o11 _ (by omega)).trans hSt.2⟩
    have hOK : OlOK D h9 (x + 5) (x + 1) (tnS σ) (nI (gN σ 4)) (gB σ 31) (gI σ 27) (gN σ 28) := hOK.fr (fun q g1 g2 => o11 q (by omega))
    have hpf : h9 (x + 39) = some (cQ D 4 pf) := (o11 _ (by omega)).trans hpf
    have hkp : ∀ i, i < np → kd i < 5 ∧ KpAt h9 (qa i) (kci (kd i)) (co i) (lo i) (pa i) := fun i hi => ⟨(hkp i hi).1, (o11 _ (by have := hqx i hi; omega)).trans (hkp i hi).2⟩
    have hIo : OlAny D h9 (x + 79 + 1) (x + 1) (gB σ 31) (gI σ 27) (nI (gN σ 28)) := hIo.fr (fun q g1 g2 => o11 q (by omega))
    have hIb : BkAt D h9 (x + 79 + 35) (gB σ 33) (gB σ 34) (nI (gN σ 30)) := ⟨(o11 _ (by omega)).trans hIb.1, (o11 _ (by omega)).trans hIb.2.1, (o11 _ (by omega)).trans hIb.2.2⟩
    have hIm : ImAt D h9 (x + 79) (pd) (nI (gN σ 29)) (nI (kp)) := ⟨(o11 _ (by omega)).trans hIm.1, (o11 _ (by omega)).trans hIm.2⟩
    have hO : ∀ q, ((x + 1 ≤ q ∧ (q < x + 5 ∨ x + 43 ≤ q) ∧ q < x + 134) ∨ q = x) → h9 q = h q := fun q hq => (o11 q (by omega)).trans (hO q hq)
    refine g_iconst C (v := 0) dX11_restore_41 (by decide) rfl ?_
    refine g_istore_n C ([(1, .int (0)), (0, .ref (x))]) dX11_restore_42 rfl (by decide) rfl rfl ?_
    have loop43 : ∀ (N : Nat) (i : Nat) (h1 : qH) (pf : Nat → Option Nat) (pa : Nat → Int32), 4 - i < N → (i ≤ 4) → (GaAt h1 x (nI (gN σ 1))) → (StAt D h1 (x + 1) (tnS σ) (nI (gN σ 3)) (nI (gN σ 4))) → (OlOK D h1 (x + 5) (x + 1) (tnS σ) (nI (gN σ 4)) (gB σ 31) (gI σ 27) (gN σ 28)) → (h1 (x + 39) = some (cQ D 4 pf)) → (∀ i, i < np → kd i < 5 ∧ KpAt h1 (qa i) (kci (kd i)) (co i) (lo i) (pa i)) → (BkAt D h1 (x + 40) (gB σ 33) (gB σ 34) (nI (gN σ 30))) → (OlAny D h1 (x + 79 + 1) (x + 1) (gB σ 31) (gI σ 27) (nI (gN σ 28))) → (BkAt D h1 (x + 79 + 35) (gB σ 33) (gB σ 34) (nI (gN σ 30))) → (ImAt D h1 (x + 79) (pd) (nI (gN σ 29)) (nI (kp))) → (∀ q, ((x + 1 ≤ q ∧ (q < x + 5 ∨ x + 43 ≤ q) ∧ q < x + 134) ∨ q = x) → h1 q = h q) → (∀ j, j < np → ¬ (j < i ∧ gN σ 29 ≤ j) → pf j = some (qa j)) → (∀ j, j < 4 → (np ≤ j ∨ (j < i ∧ gN σ 29 ≤ j)) → pf j = none) → (∀ j, j < np → pa j = if j < i ∧ j < gN σ 29 then gB σ 32 j else pa0 j) → qG X 0 0 z h1 43 [(1, .int (nI (i))), (0, .ref (x))] [] := by
      intro N
      induction N with
      | zero => intro i h1 pf pa hm; exact absurd hm (Nat.not_lt_zero _)
      | succ N ih43 =>
        intro i h1 pf pa hm hi hGa hSt hOK hpf hkp hBk hIo hIb hIm hO hpf1 hpf0 hpd
        refine g_iload_n C 0 dX11_restore_43 rfl rfl rfl ?_
        refine g_iconst C (v := 4) dX11_restore_44 (by decide) rfl ?_
        refine g_icmp_ge C dX11_restore_45 (tgt := 99) (by decide) (pc' := 48) rfl ?_ ?_
        · intro c45
          replace c45 := (nI_leI (a := 4) (b := i) (by omega) (by omega)).mp c45
          refine g_aload_n C 1 dX11_restore_99 rfl rfl rfl ?_
          refine gf_11_28 C (hGa) (v := .ref (x + 5)) rfl dX11_restore_100 rfl ?_
          refine gf_11_134 C (hOK.1.1) (v := .int (gI σ 27)) rfl dX11_restore_103 rfl ?_
          exact ret _ _ _ _ dX11_restore_106 rfl (⟨by unfold oRestore; rw [cIf_t hk]; exact ⟨rfl, Cls_mk (InS_mk (hI0) (hI3) (hI03) (hI4) (h28) (by show gN σ 29 ≤ 4; omega) (h30) (hI16) (hIt) (fun j hj => hIk j (by have : j < gN σ 29 := hj; omega)) (hI1) (fun _ => ⟨h01, h28, Nat.le_refl _, h30⟩) (hI25) (hI26) (fun g => by have : gN σ 0 = 0 := g; omega)) (hGa) (ClSt.fr hC.2.2.1 (fun q g1 g2 => hO q (by omega))) (ClPg.fr hC.2.2.2.1 (fun q g1 g2 => hO q (by omega))) (ClOl.st hOK) (⟨qa, ⟨by show gN σ 29 ≤ 4; omega, ⟨pf, hpf, fun j hj => hpf1 j (by have : j < gN σ 29 := hj; omega) (by have : j < gN σ 29 := hj; omega), fun j g hj => hpf0 j hj (by have : gN σ 29 ≤ j := g; omega)⟩, fun j hj => by have hj2 : j < gN σ 29 := hj; have hj3 : j < np := (by omega); obtain ⟨g1, g2⟩ := hkp j hj3; subst hkdE hcoE hloE; refine ⟨g1, ?_⟩; rw [hpd j hj3, if_pos (by omega)] at g2; exact g2⟩, fun j hj => hqx j (by have : j < gN σ 29 := hj; omega), fun i j hi hj => hqj i j (by have : i < gN σ 29 := hi; omega) (by have : j < gN σ 29 := hj; omega)⟩) (hBk) (ClTr.fr hC.2.2.2.2.2.2.2.1 (fun q g1 g2 => hO q (by omega))) (ClIm.fr hC.2.2.2.2.2.2.2.2 (fun q g1 g2 => hO q (by omega)))⟩, fun q g1 g2 => hO q (by omega)⟩)
        · intro c45
          replace c45 := (not_congr (nI_leI (a := 4) (b := i) (by omega) (by omega))).mp c45
          rcases Nat.lt_or_ge i np with hin | hin
          · skip
            obtain ⟨hkd, hKp⟩ := hkp i hin
            have hqi := hqx i hin
            refine g_aload_n C 1 dX11_restore_48 rfl rfl rfl ?_
            refine gf_11_34 C (hGa) (v := .ref (x + 39)) rfl dX11_restore_49 rfl ?_
            refine g_iload_n C 0 dX11_restore_52 rfl rfl rfl ?_
            refine g_aaldQ C (hpf) (j := i) rfl (by omega) (by decide) (hpf1 i hin (by omega)) dX11_restore_53 rfl ?_
            refine g_astore_n C ([(2, .ref (qa i)), (1, .int (nI (i))), (0, .ref (x))]) dX11_restore_54 rfl (by decide) rfl rfl ?_
            refine g_iload_n C 1 dX11_restore_55 rfl rfl rfl ?_
            refine g_aload_n C 2 dX11_restore_56 rfl rfl rfl ?_
            refine gf_11_59 C (hGa) (v := .ref (x + 79)) rfl dX11_restore_57 rfl ?_
            refine gf_11_246 C (hIm.1) (v := .int (nI (gN σ 29))) rfl dX11_restore_60 rfl ?_
            refine g_icmp_lt C dX11_restore_63 (tgt := 76) (by decide) (pc' := 66) rfl ?_ ?_
            · intro c63
              replace c63 := (nI_ltI (a := i) (b := gN σ 29) (by omega) (by omega)).mp c63
              refine g_aload_n C 0 dX11_restore_76 rfl rfl rfl ?_
              refine g_ifnull C dX11_restore_77 rfl ?_
              refine g_aload_n C 0 dX11_restore_80 rfl rfl rfl ?_
              refine g_aload_n C 2 dX11_restore_81 rfl rfl rfl ?_
              refine gf_11_59 C (hGa) (v := .ref (x + 79)) rfl dX11_restore_82 rfl ?_
              refine gf_11_248 C (hIm.1) (v := .ref (x + 79 + 38)) rfl dX11_restore_85 rfl ?_
              refine g_iload_n C 1 dX11_restore_88 rfl rfl rfl ?_
              refine g_iald' C (hIm.2) (j := i) rfl (by omega) (by decide) dX11_restore_89 rfl ?_
              have JP90 : ∀ h9 : qH, h9 (qa i) = some (.inr (kci (kd i), [.int (co i), .int (lo i), .int (pd (i))])) → (∀ q, q ≠ qa i → h9 q = h1 q) → qG X 0 0 z h9 93 [(2, .ref (qa i)), (1, .int (nI (i))), (0, .ref (x))] [] := by
                intro h9 e9 o9
                have hqi := hqx i hin
                have hGa : GaAt h9 x (nI (gN σ 1)) := (o9 _ (by omega)).trans hGa
                have hSt : StAt D h9 (x + 1) (tnS σ) (nI (gN σ 3)) (nI (gN σ 4)) := ⟨(o9 _ (by omega)).trans hSt.1, (o9 _ (by omega)).trans hSt.2⟩
                have hOK : OlOK D h9 (x + 5) (x + 1) (tnS σ) (nI (gN σ 4)) (gB σ 31) (gI σ 27) (gN σ 28) := hOK.fr (fun q g1 g2 => o9 q (by omega))
                have hpf : h9 (x + 39) = some (cQ D 4 pf) := (o9 _ (by omega)).trans hpf
                have hkp : ∀ j, j < np → kd j < 5 ∧ KpAt h9 (qa j) (kci (kd j)) (co j) (lo j) (va_up pa i (pd (i)) j) := fun j hj => ⟨(hkp j hj).1, by
                    by_cases e : j = i
                    · subst e; show h9 _ = _; rw [e9]; simp [va_up]
                    · show h9 _ = _; rw [o9 _ (fun g => e (hqj _ _ hj hin g))]; have := (hkp j hj).2; simp only [va_up, if_neg e]; exact this⟩
                have hBk : BkAt D h9 (x + 40) (gB σ 33) (gB σ 34) (nI (gN σ 30)) := ⟨(o9 _ (by omega)).trans hBk.1, (o9 _ (by omega)).trans hBk.2.1, (o9 _ (by omega)).trans hBk.2.2⟩
                have hIo : OlAny D h9 (x + 79 + 1) (x + 1) (gB σ 31) (gI σ 27) (nI (gN σ 28)) := hIo.fr (fun q g1 g2 => o9 q (by omega))
                have hIb : BkAt D h9 (x + 79 + 35) (gB σ 33) (gB σ 34) (nI (gN σ 30)) := ⟨(o9 _ (by omega)).trans hIb.1, (o9 _ (by omega)).trans hIb.2.1, (o9 _ (by omega)).trans hIb.2.2⟩
                have hIm : ImAt D h9 (x + 79) (pd) (nI (gN σ 29)) (nI (kp)) := ⟨(o9 _ (by omega)).trans hIm.1, (o9 _ (by omega)).trans hIm.2⟩
                have hO : ∀ q, ((x + 1 ≤ q ∧ (q < x + 5 ∨ x + 43 ≤ q) ∧ q < x + 134) ∨ q = x) → h9 q = h q := fun q hq => (o9 q (by omega)).trans (hO q hq)
                refine g_iinc C (v := nI (i + 1)) 1 ([(1, .int (nI (i + 1))), (2, .ref (qa i)), (0, .ref (x))]) dX11_restore_93 rfl (nI_1 _) (by decide) rfl rfl ?_
                refine g_goto C dX11_restore_96 (tgt := 43) (by decide) ?_
                refine q_lsub [0, 2] (L' := [(1, .int (nI (i + 1))), (0, .ref (x))]) rfl ?_
                exact ih43 (i + 1) (h9) (pf) (va_up pa i (pd i)) (by omega) (by omega) (hGa) (hSt) (hOK) (hpf) (hkp) (hBk) (hIo) (hIb) (hIm) (hO) (fun j hj g => hpf1 j hj (by omega)) (fun j hj g => hpf0 j hj (by omega)) (fun j hj => by
                    by_cases e : j = i
                    · subst e; simp only [va_up, if_true]; rw [if_pos (by omega)]; exact hpdI _ c63
                    · simp only [va_up, if_neg e]; rw [hpd j hj]; by_cases g : j < i ∧ j < gN σ 29; rw [if_pos g, if_pos (by omega)]; rw [if_neg g, if_neg (by omega)])
              have hk5 : kd i = 0 ∨ kd i = 1 ∨ kd i = 2 ∨ kd i = 3 ∨ kd i = 4 := by have := hkd; omega
              rcases hk5 with hk | hk | hk | hk | hk
              · have hKp : KpAt h1 (qa i) 4 (co i) (lo i) (pa i) := by have g := hKp; rw [hk] at g; exact g
                exact pf_11_124_4 C hKp (v := .int (pd (i))) rfl rfl (Nat.le_of_ble_eq_true rfl) dX11_restore_90 rfl (fun h9 e9 o9 => JP90 h9 (by rw [hk]; exact e9) o9)
              · have hKp : KpAt h1 (qa i) 2 (co i) (lo i) (pa i) := by have g := hKp; rw [hk] at g; exact g
                exact pf_11_124_2 C hKp (v := .int (pd (i))) rfl rfl (Nat.le_of_ble_eq_true rfl) dX11_restore_90 rfl (fun h9 e9 o9 => JP90 h9 (by rw [hk]; exact e9) o9)
              · have hKp : KpAt h1 (qa i) 6 (co i) (lo i) (pa i) := by have g := hKp; rw [hk] at g; exact g
                exact pf_11_124_6 C hKp (v := .int (pd (i))) rfl rfl (Nat.le_of_ble_eq_true rfl) dX11_restore_90 rfl (fun h9 e9 o9 => JP90 h9 (by rw [hk]; exact e9) o9)
              · have hKp : KpAt h1 (qa i) 1 (co i) (lo i) (pa i) := by have g := hKp; rw [hk] at g; exact g
                exact pf_11_124_1 C hKp (v := .int (pd (i))) rfl rfl (Nat.le_of_ble_eq_true rfl) dX11_restore_90 rfl (fun h9 e9 o9 => JP90 h9 (by rw [hk]; exact e9) o9)
              · have hKp : KpAt h1 (qa i) 5 (co i) (lo i) (pa i) := by have g := hKp; rw [hk] at g; exact g
                exact pf_11_124_5 C hKp (v := .int (pd (i))) rfl rfl (Nat.le_of_ble_eq_true rfl) dX11_restore_90 rfl (fun h9 e9 o9 => JP90 h9 (by rw [hk]; exact e9) o9)
            · intro c63
              replace c63 := (not_congr (nI_ltI (a := i) (b := gN σ 29) (by omega) (by omega))).mp c63
              refine g_aload_n C 2 dX11_restore_66 rfl rfl rfl ?_
              refine gf_11_34 C (hGa) (v := .ref (x + 39)) rfl dX11_restore_67 rfl ?_
              refine g_iload_n C 1 dX11_restore_70 rfl rfl rfl ?_
              refine g_null C dX11_restore_71 rfl ?_
              refine g_aastN C (hpf) (j := i) rfl (by omega) (by decide) dX11_restore_72 (pc' := 73) rfl (fun h12 e13 o14 => ?_)
              have hpf : h12 (x + 39) = some (cQ D 4 (va_up pf i none)) := e13
              have hkp : ∀ i, i < np → kd i < 5 ∧ KpAt h12 (qa i) (kci (kd i)) (co i) (lo i) (pa i) := fun i hi => ⟨(hkp i hi).1, (o14 _ (by have := hqx i hi; omega)).trans (hkp i hi).2⟩
              have hGa : GaAt h12 x (nI (gN σ 1)) := (o14 _ (by omega)).trans hGa
              have hSt : StAt D h12 (x + 1) (tnS σ) (nI (gN σ 3)) (nI (gN σ 4)) := ⟨(o14 _ (by omega)).trans hSt.1, (o14 _ (by omega)).trans hSt.2⟩
              have hOK : OlOK D h12 (x + 5) (x + 1) (tnS σ) (nI (gN σ 4)) (gB σ 31) (gI σ 27) (gN σ 28) := hOK.fr (fun q g1 g2 => o14 q (by omega))
              have hBk : BkAt D h12 (x + 40) (gB σ 33) (gB σ 34) (nI (gN σ 30)) := ⟨(o14 _ (by omega)).trans hBk.1, (o14 _ (by omega)).trans hBk.2.1, (o14 _ (by omega)).trans hBk.2.2⟩
              have hIo : OlAny D h12 (x + 79 + 1) (x + 1) (gB σ 31) (gI σ 27) (nI (gN σ 28)) := hIo.fr (fun q g1 g2 => o14 q (by omega))
              have hIb : BkAt D h12 (x + 79 + 35) (gB σ 33) (gB σ 34) (nI (gN σ 30)) := ⟨(o14 _ (by omega)).trans hIb.1, (o14 _ (by omega)).trans hIb.2.1, (o14 _ (by omega)).trans hIb.2.2⟩
              have hIm : ImAt D h12 (x + 79) (pd) (nI (gN σ 29)) (nI (kp)) := ⟨(o14 _ (by omega)).trans hIm.1, (o14 _ (by omega)).trans hIm.2⟩
              have hO : ∀ q, ((x + 1 ≤ q ∧ (q < x + 5 ∨ x + 43 ≤ q) ∧ q < x + 134) ∨ q = x) → h12 q = h q := fun q hq => (o14 q (by omega)).trans (hO q hq)
              have hKp : KpAt h12 (qa i) (kci (kd i)) (co i) (lo i) (pa i) := (o14 _ (by omega)).trans hKp
              refine g_goto C dX11_restore_73 (tgt := 93) (by decide) ?_
              refine g_iinc C (v := nI (i + 1)) 1 ([(1, .int (nI (i + 1))), (2, .ref (qa i)), (0, .ref (x))]) dX11_restore_93 rfl (nI_1 _) (by decide) rfl rfl ?_
              refine g_goto C dX11_restore_96 (tgt := 43) (by decide) ?_
              refine q_lsub [0, 2] (L' := [(1, .int (nI (i + 1))), (0, .ref (x))]) rfl ?_
              exact ih43 (i + 1) (h12) (va_up pf i none) (pa) (by omega) (by omega) (hGa) (hSt) (hOK) (hpf) (hkp) (hBk) (hIo) (hIb) (hIm) (hO) (fun j hj g => by
                  have e : j ≠ i := fun e => g (by omega)
                  simp only [va_up, if_neg e]; exact hpf1 j hj (by omega)) (fun j hj g => by
                  by_cases e : j = i
                  · subst e; simp [va_up]
                  · simp only [va_up, if_neg e]; exact hpf0 j hj (by omega)) (fun j hj => by rw [hpd j hj]; by_cases g : j < i ∧ j < gN σ 29; rw [if_pos g, if_pos (by omega)]; rw [if_neg g, if_neg (by omega)])
          · skip
            refine g_aload_n C 1 dX11_restore_48 rfl rfl rfl ?_
            refine gf_11_34 C (hGa) (v := .ref (x + 39)) rfl dX11_restore_49 rfl ?_
            refine g_iload_n C 0 dX11_restore_52 rfl rfl rfl ?_
            refine g_aaldQN C (hpf) (j := i) rfl (by omega) (by decide) (hpf0 i (by omega) (by omega)) dX11_restore_53 rfl ?_
            refine g_astore_nN C ([(2, .null), (1, .int (nI (i))), (0, .ref (x))]) dX11_restore_54 rfl (by decide) rfl rfl ?_
            refine g_iload_n C 1 dX11_restore_55 rfl rfl rfl ?_
            refine g_aload_n C 2 dX11_restore_56 rfl rfl rfl ?_
            refine gf_11_59 C (hGa) (v := .ref (x + 79)) rfl dX11_restore_57 rfl ?_
            refine gf_11_246 C (hIm.1) (v := .int (nI (gN σ 29))) rfl dX11_restore_60 rfl ?_
            refine g_icmp_lt C dX11_restore_63 (tgt := 76) (by decide) (pc' := 66) rfl ?_ ?_
            · intro c63
              replace c63 := (nI_ltI (a := i) (b := gN σ 29) (by omega) (by omega)).mp c63
              exact absurd c63 (by omega)
            · intro c63
              replace c63 := (not_congr (nI_ltI (a := i) (b := gN σ 29) (by omega) (by omega))).mp c63
              refine g_aload_n C 2 dX11_restore_66 rfl rfl rfl ?_
              refine gf_11_34 C (hGa) (v := .ref (x + 39)) rfl dX11_restore_67 rfl ?_
              refine g_iload_n C 1 dX11_restore_70 rfl rfl rfl ?_
              refine g_null C dX11_restore_71 rfl ?_
              refine g_aastN C (hpf) (j := i) rfl (by omega) (by decide) dX11_restore_72 (pc' := 73) rfl (fun h15 e16 o17 => ?_)
              have hpf : h15 (x + 39) = some (cQ D 4 (va_up pf i none)) := e16
              have hkp : ∀ i, i < np → kd i < 5 ∧ KpAt h15 (qa i) (kci (kd i)) (co i) (lo i) (pa i) := fun i hi => ⟨(hkp i hi).1, (o17 _ (by have := hqx i hi; omega)).trans (hkp i hi).2⟩
              have hGa : GaAt h15 x (nI (gN σ 1)) := (o17 _ (by omega)).trans hGa
              have hSt : StAt D h15 (x + 1) (tnS σ) (nI (gN σ 3)) (nI (gN σ 4)) := ⟨(o17 _ (by omega)).trans hSt.1, (o17 _ (by omega)).trans hSt.2⟩
              have hOK : OlOK D h15 (x + 5) (x + 1) (tnS σ) (nI (gN σ 4)) (gB σ 31) (gI σ 27) (gN σ 28) := hOK.fr (fun q g1 g2 => o17 q (by omega))
              have hBk : BkAt D h15 (x + 40) (gB σ 33) (gB σ 34) (nI (gN σ 30)) := ⟨(o17 _ (by omega)).trans hBk.1, (o17 _ (by omega)).trans hBk.2.1, (o17 _ (by omega)).trans hBk.2.2⟩
              have hIo : OlAny D h15 (x + 79 + 1) (x + 1) (gB σ 31) (gI σ 27) (nI (gN σ 28)) := hIo.fr (fun q g1 g2 => o17 q (by omega))
              have hIb : BkAt D h15 (x + 79 + 35) (gB σ 33) (gB σ 34) (nI (gN σ 30)) := ⟨(o17 _ (by omega)).trans hIb.1, (o17 _ (by omega)).trans hIb.2.1, (o17 _ (by omega)).trans hIb.2.2⟩
              have hIm : ImAt D h15 (x + 79) (pd) (nI (gN σ 29)) (nI (kp)) := ⟨(o17 _ (by omega)).trans hIm.1, (o17 _ (by omega)).trans hIm.2⟩
              have hO : ∀ q, ((x + 1 ≤ q ∧ (q < x + 5 ∨ x + 43 ≤ q) ∧ q < x + 134) ∨ q = x) → h15 q = h q := fun q hq => (o17 q (by omega)).trans (hO q hq)
              refine g_goto C dX11_restore_73 (tgt := 93) (by decide) ?_
              refine g_iinc C (v := nI (i + 1)) 1 ([(1, .int (nI (i + 1))), (2, .null), (0, .ref (x))]) dX11_restore_93 rfl (nI_1 _) (by decide) rfl rfl ?_
              refine g_goto C dX11_restore_96 (tgt := 43) (by decide) ?_
              refine q_lsub [0, 2] (L' := [(1, .int (nI (i + 1))), (0, .ref (x))]) rfl ?_
              exact ih43 (i + 1) (h15) (va_up pf i none) (pa) (by omega) (by omega) (hGa) (hSt) (hOK) (hpf) (hkp) (hBk) (hIo) (hIb) (hIm) (hO) (fun j hj g => by
                  have e : j ≠ i := fun e => g (by omega)
                  simp only [va_up, if_neg e]; exact hpf1 j hj (by omega)) (fun j hj g => by
                  by_cases e : j = i
                  · subst e; simp [va_up]
                  · simp only [va_up, if_neg e]; exact hpf0 j hj (by omega)) (fun j hj => by rw [hpd j hj]; by_cases g : j < i ∧ j < gN σ 29; rw [if_pos g, if_pos (by omega)]; rw [if_neg g, if_neg (by omega)])
    exact loop43 _ (0) (h9) (pf) (pa) (Nat.lt_succ_self _) (by omega) (hGa) (hSt) (hOK) (hpf) (hkp) (hBk) (hIo) (hIb) (hIm) (hO) (fun j hj g => hpf1 j hj) (fun j hj g => hpf0 j (by omega) hj) (fun j hj => by rw [if_neg (by omega), hpa0E])
  · intro c7
    replace c7 := (nI_eq (a := kp) (b := 0) (by omega) (by omega)).mp c7
    refine g_bipush C (v := -103) dX11_restore_10 (by decide) rfl ?_
    exact ret _ _ _ _ dX11_restore_12 rfl (⟨by unfold oRestore; rw [cIf_f (fun g => by have := hkiff.mpr g; omega)]; exact ⟨rfl, hC⟩, fun _ _ _ => rfl⟩)

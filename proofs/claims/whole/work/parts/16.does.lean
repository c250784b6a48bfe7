/-! the class's own methods: what writes -/
theorem InS_mk {σ : sg} (h0 : gN σ 0 ≤ 1) (h3 : gN σ 3 ≤ 4) (h03 : gN σ 0 = 1 ↔ 1 ≤ gN σ 3) (h4 : gN σ 4 < 10) (h6 : gN σ 6 < 3) (h8 : gN σ 8 ≤ 4) (h13 : gN σ 13 ≤ 12) (h16 : gN σ 16 ≤ 16) (ht : ∀ i, i < 9 → gA σ 2 i ≤ 10) (hk : ∀ i, i < gN σ 8 → gA σ 9 i < 5) (h1 : gN σ 1 < 2 ^ 30) (him : imK σ → gN σ 0 = 1 ∧ gN σ 28 < 3 ∧ gN σ 29 ≤ gN σ 8 ∧ gN σ 30 ≤ 12) (h25 : gN σ 25 ≤ 1) (h26 : gN σ 26 ≤ gN σ 1) (h08 : gN σ 0 = 0 → gN σ 8 = 0) : InS σ := ⟨h0, h3, h03, h4, h6, h8, h13, h16, ht, hk, h1, him, h25, h26, h08⟩
theorem Cls_mk {D : va_G} {h : qH} {x : Nat} {σ : sg} (h1 : InS σ) (h2 : ClGa h x σ) (h3 : ClSt D h x σ) (h4 : ClPg D h x σ) (h5 : ClOl D h x σ) (h6 : ClPe D h x σ) (h7 : ClBk D h x σ) (h8 : ClTr D h x) (h9 : ClIm D h x σ) : Cls D h x σ := ⟨h1, h2, h3, h4, h5, h6, h7, h8, h9⟩
section FR
variable {D : va_G} {h h1 : qH} {x : Nat} {σ : sg}
theorem ClGa.fr (H : ClGa h x σ) (o : ∀ q, x ≤ q → q < x + 1 → h1 q = h q) : ClGa h1 x σ := GaAt.fr H o
theorem ClSt.fr (H : ClSt D h x σ) (o : ∀ q, x + 1 ≤ q → q < x + 3 → h1 q = h q) : ClSt D h1 x σ := ⟨(o _ (by omega) (by omega)).trans H.1, (o _ (by omega) (by omega)).trans H.2⟩
theorem ClPg.fr (H : ClPg D h x σ) (o : ∀ q, x + 3 ≤ q → q < x + 5 → h1 q = h q) : ClPg D h1 x σ := ⟨(o _ (by omega) (by omega)).trans H.1, (o _ (by omega) (by omega)).trans H.2⟩
theorem ClBk.fr (H : ClBk D h x σ) (o : ∀ q, x + 40 ≤ q → q < x + 43 → h1 q = h q) : ClBk D h1 x σ := ⟨(o _ (by omega) (by omega)).trans H.1, (o _ (by omega) (by omega)).trans H.2.1, (o _ (by omega) (by omega)).trans H.2.2⟩
theorem ClOl.fr (H : ClOl D h x σ) (o : ∀ q, x + 5 ≤ q → q < x + 39 → h1 q = h q) : ClOl D h1 x σ := ⟨H.1.fr (fun q g1 g2 => o q (by omega) (by omega)), fun g => (H.2 g).fr (fun q g1 g2 => o q (by omega) (by omega))⟩
theorem ClPe.fr (H : ClPe D h x σ) (o : ∀ q, (q = x + 39 ∨ x + 134 ≤ q) → h1 q = h q) : ClPe D h1 x σ := by
  obtain ⟨qa, H1, H2, H3⟩ := H
  exact ⟨qa, H1.fr (fun q g => o q (by rcases g with g | ⟨i, hi, rfl⟩; exact Or.inl g; exact Or.inr (H2 i hi))), H2, H3⟩
theorem ClTr.fr (H : ClTr D h x) (o : ∀ q, x + 43 ≤ q → q < x + 79 → h1 q = h q) : ClTr D h1 x := by
  obtain ⟨dr, dN, da, sd, wt, pd, sp, rd, dn, w, H0, H1, H2⟩ := H
  exact ⟨dr, dN, da, sd, wt, pd, sp, rd, dn, w, H0, H1.fr (fun q g => o q (by omega) (by omega)), H2.fr (fun q g1 g2 => o q (by omega) (by omega))⟩
theorem ClIm.fr (H : ClIm D h x σ) (o : ∀ q, x + 79 ≤ q → q < x + 118 → h1 q = h q) : ClIm D h1 x σ := by
  obtain ⟨pd, pp, kp, rd, dn, w, ws, rs, n, H1, H2, H3, H4⟩ := H
  exact ⟨pd, pp, kp, rd, dn, w, ws, rs, n, H1.fr (fun q g => o q (by omega) (by omega)), H2.fr (fun q g1 g2 => o q (by omega) (by omega)), ⟨(o _ (by omega) (by omega)).trans H3.1, (o _ (by omega) (by omega)).trans H3.2.1, (o _ (by omega) (by omega)).trans H3.2.2⟩, H4⟩
end FR
def oLetter (σ : sg) (c : Int32) : Int32 × sg := if ¬ c < 32 ∧ c ≤ 126 then (if gN σ 16 < 16 then (nI (gN σ 16 + 1), uN (uB σ 17 (upd (gB σ 17) (gN σ 16) c)) 16 (gN σ 16 + 1)) else (-104, σ)) else (-102, σ)
set_option maxHeartbeats 4000000 in
set_option maxRecDepth 100000 in
theorem k_X11_letter (l : Launch) (D : va_G) (b z : Nat) {h : qH} {x : Nat} {σ : sg} (hC : Cls D h x σ) (c : Int32) : qMi l D b yX11_letter cX11_letter 2 .int 1 21 [.ref (x), .int (c)] h z (fun r h' => (r = (oLetter σ c).1 ∧ Cls D h' x (oLetter σ c).2) ∧ ∀ q, x + 118 ≤ q → q < x + 134 → h' q = h q) := by
  refine q_i (L := [(0, .ref (x)), (1, .int (c))]) (own := RX11) (by decide) rfl (Nat.le_of_ble_eq_true rfl) rfl ?_
  intro X C ret
  have hO : ∀ q, (q < x + 3 ∨ x + 5 ≤ q) → h q = h q := fun _ _ => rfl
  obtain ⟨hIn, hGa, hSt, hPg, hOl, hPe, hBk, hTr, hIm⟩ := id hC
  replace hGa : GaAt h x (nI (gN σ 1)) := hGa
  replace hSt : StAt D h (x + 1) (tnS σ) (nI (gN σ 3)) (nI (gN σ 4)) := hSt
  replace hPg : PgAt D h (x + 3) (gB σ 17) (nI (gN σ 16)) := hPg
  replace hBk : BkAt D h (x + 40) (gB σ 14) (gB σ 15) (nI (gN σ 13)) := hBk
  obtain ⟨hI0, hI3, hI03, hI4, hI6, hI8, hI13, hI16, hIt, hIk, hI1, hIim, hI25, hI26, hI08⟩ := id hIn
  have hOl1 := hOl.1.1
  refine g_iload_n C 1 dX11_letter_0 rfl rfl rfl ?_
  refine g_bipush C (v := 32) dX11_letter_1 (by decide) rfl ?_
  refine g_icmp_lt C dX11_letter_3 (tgt := 12) (by decide) (pc' := 6) rfl ?_ ?_
  · intro c3
    refine g_bipush C (v := -102) dX11_letter_12 (by decide) rfl ?_
    exact ret _ _ _ _ dX11_letter_14 rfl (⟨by unfold oLetter; rw [if_neg (fun g => g.1 c3)]; exact ⟨rfl, hC⟩, fun _ _ _ => rfl⟩)
  · intro c3
    refine g_iload_n C 1 dX11_letter_6 rfl rfl rfl ?_
    refine g_bipush C (v := 126) dX11_letter_7 (by decide) rfl ?_
    refine g_icmp_le C dX11_letter_9 (tgt := 15) (by decide) (pc' := 12) rfl ?_ ?_
    · intro c9
      refine g_aload_n C 0 dX11_letter_15 rfl rfl rfl ?_
      refine gf_11_13 C (hGa) (v := .ref (x + 3)) rfl dX11_letter_16 rfl ?_
      refine g_iload_n C 1 dX11_letter_19 rfl rfl rfl ?_
      refine g_callVi C (As := [.int (c)]) (q := (RX8, TX8, 2)) (k_X8_append l D b z hI16 hPg (c)) hw_11_63 (hPg.1) rfl (by decide) rfl rfl (Nat.le_of_ble_eq_true rfl) ⟨Nat.zero_le _, Nat.zero_le _⟩ dX11_letter_20 (pc' := 23) rfl ?_
      rintro rr h1 (⟨hn, er, hPg, fr⟩ | ⟨hn, er, e9⟩)
      · subst er
        have hGa : GaAt h1 x (nI (gN σ 1)) := (fr _ (by omega)).trans hGa
        have hSt : StAt D h1 (x + 1) (tnS σ) (nI (gN σ 3)) (nI (gN σ 4)) := ⟨(fr _ (by omega)).trans hSt.1, (fr _ (by omega)).trans hSt.2⟩
        have hBk : BkAt D h1 (x + 40) (gB σ 14) (gB σ 15) (nI (gN σ 13)) := ⟨(fr _ (by omega)).trans hBk.1, (fr _ (by omega)).trans hBk.2.1, (fr _ (by omega)).trans hBk.2.2⟩
        have hOl1 : OlAt D h1 (x + 5) (x + 1) (gB σ 7) (gI σ 5) (nI (gN σ 6)) := ⟨(fr _ (by omega)).trans hOl1.1, (fr _ (by omega)).trans hOl1.2⟩
        have hO : ∀ q, (q < x + 3 ∨ x + 5 ≤ q) → h1 q = h q := fun q hq => (fr q (by omega)).trans (hO q hq)
        refine g_if_eq C dX11_letter_23 (tgt := 36) (by decide) (pc' := 26) rfl (fun c23 => absurd c23 (by decide)) (fun _ => ?_)
        refine g_aload_n C 0 dX11_letter_26 rfl rfl rfl ?_
        refine gf_11_13 C (hGa) (v := .ref (x + 3)) rfl dX11_letter_27 rfl ?_
        refine gf_11_67 C (hPg.1) (v := .int (nI (gN σ 16 + 1))) rfl dX11_letter_30 rfl ?_
        refine g_goto C dX11_letter_33 (tgt := 38) (by decide) ?_
        exact ret _ _ _ _ dX11_letter_38 rfl (⟨by unfold oLetter; rw [if_pos ⟨c3, c9⟩, if_pos hn]; exact ⟨rfl, Cls_mk (InS_mk (hI0) (hI3) (hI03) (hI4) (hI6) (hI8) (hI13) (by show gN σ 16 + 1 ≤ 16; omega) (hIt) (hIk) (hI1) (hIim) (hI25) (hI26) (hI08)) (ClGa.fr hC.2.1 (fun q g1 g2 => hO q (by omega))) (ClSt.fr hC.2.2.1 (fun q g1 g2 => hO q (by omega))) (hPg) (ClOl.fr hC.2.2.2.2.1 (fun q g1 g2 => hO q (by omega))) (ClPe.fr hC.2.2.2.2.2.1 (fun q g => hO q (by omega))) (ClBk.fr hC.2.2.2.2.2.2.1 (fun q g1 g2 => hO q (by omega))) (ClTr.fr hC.2.2.2.2.2.2.2.1 (fun q g1 g2 => hO q (by omega))) (ClIm.fr hC.2.2.2.2.2.2.2.2 (fun q g1 g2 => hO q (by omega)))⟩, fun q g1 g2 => hO q (by omega)⟩)
      · subst er; subst h1
        refine g_if_eq C dX11_letter_23 (tgt := 36) (by decide) (pc' := 26) rfl (fun _ => ?_) (fun c23 => absurd (by decide) c23)
        refine g_bipush C (v := -104) dX11_letter_36 (by decide) rfl ?_
        exact ret _ _ _ _ dX11_letter_38 rfl (⟨by unfold oLetter; rw [if_pos ⟨c3, c9⟩, if_neg (by omega)]; exact ⟨rfl, hC⟩, fun _ _ _ => rfl⟩)
    · intro c9
      refine g_bipush C (v := -102) dX11_letter_12 (by decide) rfl ?_
      exact ret _ _ _ _ dX11_letter_14 rfl (⟨by unfold oLetter; rw [if_neg (fun g => c9 g.2)]; exact ⟨rfl, hC⟩, fun _ _ _ => rfl⟩)
def oBlank (σ : sg) : Int32 × sg := (nI (gN σ 16), uN σ 16 0)
def oForget (σ : sg) : Int32 × sg := (nI (gN σ 13), uN σ 13 0)
set_option maxHeartbeats 4000000 in
set_option maxRecDepth 100000 in
theorem k_X11_blank (l : Launch) (D : va_G) (b z : Nat) {h : qH} {x : Nat} {σ : sg} (hC : Cls D h x σ)  : qMi l D b yX11_blank cX11_blank 2 .int 0 0 [.ref (x)] h z (fun r h' => (r = (oBlank σ).1 ∧ Cls D h' x (oBlank σ).2) ∧ ∀ q, x + 118 ≤ q → q < x + 134 → h' q = h q) := by
  refine q_i (L := [(0, .ref (x))]) (own := RX11) (by decide) rfl (Nat.le_of_ble_eq_true rfl) rfl ?_
  intro X C ret
  have hO : ∀ q, (q < x + 3 ∨ x + 5 ≤ q) → h q = h q := fun _ _ => rfl
  obtain ⟨hIn, hGa, hSt, hPg, hOl, hPe, hBk, hTr, hIm⟩ := id hC
  replace hGa : GaAt h x (nI (gN σ 1)) := hGa
  replace hSt : StAt D h (x + 1) (tnS σ) (nI (gN σ 3)) (nI (gN σ 4)) := hSt
  replace hPg : PgAt D h (x + 3) (gB σ 17) (nI (gN σ 16)) := hPg
  replace hBk : BkAt D h (x + 40) (gB σ 14) (gB σ 15) (nI (gN σ 13)) := hBk
  obtain ⟨hI0, hI3, hI03, hI4, hI6, hI8, hI13, hI16, hIt, hIk, hI1, hIim, hI25, hI26, hI08⟩ := id hIn
  have hOl1 := hOl.1.1
  refine g_aload_n C 0 dX11_blank_0 rfl rfl rfl ?_
  refine gf_11_13 C (hGa) (v := .ref (x + 3)) rfl dX11_blank_1 rfl ?_
  refine gf_11_67 C (hPg.1) (v := .int (nI (gN σ 16))) rfl dX11_blank_4 rfl ?_
  refine g_istore_n C ([(1, .int (nI (gN σ 16))), (0, .ref (x))]) dX11_blank_7 rfl (by decide) rfl rfl ?_
  refine g_aload_n C 1 dX11_blank_8 rfl rfl rfl ?_
  refine gf_11_13 C (hGa) (v := .ref (x + 3)) rfl dX11_blank_9 rfl ?_
  refine g_iconst C (v := 0) dX11_blank_12 (by decide) rfl ?_
  refine pf_11_67 C (hPg.1) (v := .int (0)) rfl rfl (Nat.le_of_ble_eq_true rfl) dX11_blank_13 (pc' := 16) rfl (fun h1 e2 o3 => ?_)
  have hPg : PgAt D h1 (x + 3) (gB σ 17) (0) := ⟨e2, (o3 _ (by omega)).trans hPg.2⟩
  have hGa : GaAt h1 x (nI (gN σ 1)) := (o3 _ (by omega)).trans hGa
  have hSt : StAt D h1 (x + 1) (tnS σ) (nI (gN σ 3)) (nI (gN σ 4)) := ⟨(o3 _ (by omega)).trans hSt.1, (o3 _ (by omega)).trans hSt.2⟩
  have hBk : BkAt D h1 (x + 40) (gB σ 14) (gB σ 15) (nI (gN σ 13)) := ⟨(o3 _ (by omega)).trans hBk.1, (o3 _ (by omega)).trans hBk.2.1, (o3 _ (by omega)).trans hBk.2.2⟩
  have hOl1 : OlAt D h1 (x + 5) (x + 1) (gB σ 7) (gI σ 5) (nI (gN σ 6)) := ⟨(o3 _ (by omega)).trans hOl1.1, (o3 _ (by omega)).trans hOl1.2⟩
  have hO : ∀ q, (q < x + 3 ∨ x + 5 ≤ q) → h1 q = h q := fun q hq => (o3 q (by omega)).trans (hO q hq)
  refine g_iload_n C 0 dX11_blank_16 rfl rfl rfl ?_
  exact ret _ _ _ _ dX11_blank_17 rfl (⟨⟨rfl, Cls_mk (InS_mk (hI0) (hI3) (hI03) (hI4) (hI6) (hI8) (hI13) (Nat.zero_le _) (hIt) (hIk) (hI1) (hIim) (hI25) (hI26) (hI08)) (ClGa.fr hC.2.1 (fun q g1 g2 => hO q (by omega))) (ClSt.fr hC.2.2.1 (fun q g1 g2 => hO q (by omega))) (hPg) (ClOl.fr hC.2.2.2.2.1 (fun q g1 g2 => hO q (by omega))) (ClPe.fr hC.2.2.2.2.2.1 (fun q g => hO q (by omega))) (ClBk.fr hC.2.2.2.2.2.2.1 (fun q g1 g2 => hO q (by omega))) (ClTr.fr hC.2.2.2.2.2.2.2.1 (fun q g1 g2 => hO q (by omega))) (ClIm.fr hC.2.2.2.2.2.2.2.2 (fun q g1 g2 => hO q (by omega)))⟩, fun q g1 g2 => hO q (by omega)⟩)
set_option maxHeartbeats 4000000 in
set_option maxRecDepth 100000 in
theorem k_X11_forget (l : Launch) (D : va_G) (b z : Nat) {h : qH} {x : Nat} {σ : sg} (hC : Cls D h x σ)  : qMi l D b yX11_forget cX11_forget 2 .int 0 0 [.ref (x)] h z (fun r h' => (r = (oForget σ).1 ∧ Cls D h' x (oForget σ).2) ∧ ∀ q, x + 118 ≤ q → q < x + 134 → h' q = h q) := by
  refine q_i (L := [(0, .ref (x))]) (own := RX11) (by decide) rfl (Nat.le_of_ble_eq_true rfl) rfl ?_
  intro X C ret
  have hO : ∀ q, (q < x + 40 ∨ x + 43 ≤ q) → h q = h q := fun _ _ => rfl
  obtain ⟨hIn, hGa, hSt, hPg, hOl, hPe, hBk, hTr, hIm⟩ := id hC
  replace hGa : GaAt h x (nI (gN σ 1)) := hGa
  replace hSt : StAt D h (x + 1) (tnS σ) (nI (gN σ 3)) (nI (gN σ 4)) := hSt
  replace hPg : PgAt D h (x + 3) (gB σ 17) (nI (gN σ 16)) := hPg
  replace hBk : BkAt D h (x + 40) (gB σ 14) (gB σ 15) (nI (gN σ 13)) := hBk
  obtain ⟨hI0, hI3, hI03, hI4, hI6, hI8, hI13, hI16, hIt, hIk, hI1, hIim, hI25, hI26, hI08⟩ := id hIn
  have hOl1 := hOl.1.1
  refine g_aload_n C 0 dX11_forget_0 rfl rfl rfl ?_
  refine gf_11_41 C (hGa) (v := .ref (x + 40)) rfl dX11_forget_1 rfl ?_
  refine gf_11_87 C (hBk.1) (v := .int (nI (gN σ 13))) rfl dX11_forget_4 rfl ?_
  refine g_istore_n C ([(1, .int (nI (gN σ 13))), (0, .ref (x))]) dX11_forget_7 rfl (by decide) rfl rfl ?_
  refine g_aload_n C 1 dX11_forget_8 rfl rfl rfl ?_
  refine gf_11_41 C (hGa) (v := .ref (x + 40)) rfl dX11_forget_9 rfl ?_
  refine g_iconst C (v := 0) dX11_forget_12 (by decide) rfl ?_
  refine pf_11_87 C (hBk.1) (v := .int (0)) rfl rfl (Nat.le_of_ble_eq_true rfl) dX11_forget_13 (pc' := 16) rfl (fun h1 e2 o3 => ?_)
  have hBk : BkAt D h1 (x + 40) (gB σ 14) (gB σ 15) (0) := ⟨e2, (o3 _ (by omega)).trans hBk.2.1, (o3 _ (by omega)).trans hBk.2.2⟩
  have hGa : GaAt h1 x (nI (gN σ 1)) := (o3 _ (by omega)).trans hGa
  have hSt : StAt D h1 (x + 1) (tnS σ) (nI (gN σ 3)) (nI (gN σ 4)) := ⟨(o3 _ (by omega)).trans hSt.1, (o3 _ (by omega)).trans hSt.2⟩
  have hPg : PgAt D h1 (x + 3) (gB σ 17) (nI (gN σ 16)) := ⟨(o3 _ (by omega)).trans hPg.1, (o3 _ (by omega)).trans hPg.2⟩
  have hOl1 : OlAt D h1 (x + 5) (x + 1) (gB σ 7) (gI σ 5) (nI (gN σ 6)) := ⟨(o3 _ (by omega)).trans hOl1.1, (o3 _ (by omega)).trans hOl1.2⟩
  have hO : ∀ q, (q < x + 40 ∨ x + 43 ≤ q) → h1 q = h q := fun q hq => (o3 q (by omega)).trans (hO q hq)
  refine g_iload_n C 0 dX11_forget_16 rfl rfl rfl ?_
  exact ret _ _ _ _ dX11_forget_17 rfl (⟨⟨rfl, Cls_mk (InS_mk (hI0) (hI3) (hI03) (hI4) (hI6) (hI8) (Nat.zero_le _) (hI16) (hIt) (hIk) (hI1) (hIim) (hI25) (hI26) (hI08)) (ClGa.fr hC.2.1 (fun q g1 g2 => hO q (by omega))) (ClSt.fr hC.2.2.1 (fun q g1 g2 => hO q (by omega))) (ClPg.fr hC.2.2.2.1 (fun q g1 g2 => hO q (by omega))) (ClOl.fr hC.2.2.2.2.1 (fun q g1 g2 => hO q (by omega))) (ClPe.fr hC.2.2.2.2.2.1 (fun q g => hO q (by omega))) (hBk) (ClTr.fr hC.2.2.2.2.2.2.2.1 (fun q g1 g2 => hO q (by omega))) (ClIm.fr hC.2.2.2.2.2.2.2.2 (fun q g1 g2 => hO q (by omega)))⟩, fun q g1 g2 => hO q (by omega)⟩)
noncomputable def oBook (σ : sg) (v w : Int32) : Int32 × sg := cIf (inP 0 2 v ∧ (w = -1 ∨ inP 0 2 w)) (if gN σ 13 < 12 then (nI (gN σ 13 + 1), uN (uB (uB σ 14 (upd (gB σ 14) (gN σ 13) v)) 15 (upd (gB σ 15) (gN σ 13) w)) 13 (gN σ 13 + 1)) else (-104, σ)) (-101, σ)
set_option maxHeartbeats 4000000 in
set_option maxRecDepth 100000 in
theorem k_X11_book (l : Launch) (D : va_G) (b z : Nat) {h : qH} {x : Nat} {σ : sg} (hC : Cls D h x σ) (v w : Int32) : qMi l D b yX11_book cX11_book 3 .int 1 22 [.ref (x), .int (v), .int (w)] h z (fun r h' => (r = (oBook σ v w).1 ∧ Cls D h' x (oBook σ v w).2) ∧ ∀ q, x + 118 ≤ q → q < x + 134 → h' q = h q) := by
  refine q_i (L := [(0, .ref (x)), (1, .int (v)), (2, .int (w))]) (own := RX11) (by decide) rfl (Nat.le_of_ble_eq_true rfl) rfl ?_
  intro X C ret
  have hO : ∀ q, (q < x + 40 ∨ x + 43 ≤ q) → h q = h q := fun _ _ => rfl
  obtain ⟨hIn, hGa, hSt, hPg, hOl, hPe, hBk, hTr, hIm⟩ := id hC
  replace hGa : GaAt h x (nI (gN σ 1)) := hGa
  replace hSt : StAt D h (x + 1) (tnS σ) (nI (gN σ 3)) (nI (gN σ 4)) := hSt
  replace hPg : PgAt D h (x + 3) (gB σ 17) (nI (gN σ 16)) := hPg
  replace hBk : BkAt D h (x + 40) (gB σ 14) (gB σ 15) (nI (gN σ 13)) := hBk
  obtain ⟨hI0, hI3, hI03, hI4, hI6, hI8, hI13, hI16, hIt, hIk, hI1, hIim, hI25, hI26, hI08⟩ := id hIn
  have hOl1 := hOl.1.1
  refine g_iload_n C 1 dX11_book_0 rfl rfl rfl ?_
  refine g_callSi C (As := [.int (v)]) (kp_X11_isWeather l D b z h (v)) hw_11_100 (by decide) rfl rfl (Nat.le_of_ble_eq_true rfl) ⟨Nat.zero_le _, Nat.zero_le _⟩ dX11_book_1 (pc' := 4) rfl ?_
  rintro r1 h9 ⟨⟨er, hp1⟩ | ⟨er, hp1⟩, e9⟩
  · subst h9; subst er
    have hp1_ := hp1
    obtain ⟨i, rfl, hp1a, hp1b⟩ := hp1_
    refine g_if_eq C dX11_book_4 (tgt := 19) (by decide) (pc' := 7) rfl (fun c4 => absurd c4 (by decide)) (fun _ => ?_)
    refine g_iload_n C 2 dX11_book_7 rfl rfl rfl ?_
    refine g_iconst C (v := -1) dX11_book_8 (by decide) rfl ?_
    refine g_icmp_eq C dX11_book_9 (tgt := 22) (by decide) (pc' := 12) rfl ?_ ?_
    · intro c9
      refine g_aload_n C 0 dX11_book_22 rfl rfl rfl ?_
      refine gf_11_41 C (hGa) (v := .ref (x + 40)) rfl dX11_book_23 rfl ?_
      refine g_iload_n C 1 dX11_book_26 rfl rfl rfl ?_
      refine g_iload_n C 2 dX11_book_27 rfl rfl rfl ?_
      refine g_callVi C (As := [.int (nI (i)), .int (w)]) (q := (RX0, TX0, 3)) (k_X0_append l D b z hI13 hBk (nI (i)) (w)) hw_11_200 (hBk.1) rfl (by decide) rfl rfl (Nat.le_of_ble_eq_true rfl) ⟨Nat.zero_le _, Nat.zero_le _⟩ dX11_book_28 (pc' := 31) rfl ?_
      rintro rr h2 (⟨hn, er, hBk, fr⟩ | ⟨hn, er, e9⟩)
      · subst er
        have hGa : GaAt h2 x (nI (gN σ 1)) := (fr _ (by omega)).trans hGa
        have hSt : StAt D h2 (x + 1) (tnS σ) (nI (gN σ 3)) (nI (gN σ 4)) := ⟨(fr _ (by omega)).trans hSt.1, (fr _ (by omega)).trans hSt.2⟩
        have hPg : PgAt D h2 (x + 3) (gB σ 17) (nI (gN σ 16)) := ⟨(fr _ (by omega)).trans hPg.1, (fr _ (by omega)).trans hPg.2⟩
        have hOl1 : OlAt D h2 (x + 5) (x + 1) (gB σ 7) (gI σ 5) (nI (gN σ 6)) := ⟨(fr _ (by omega)).trans hOl1.1, (fr _ (by omega)).trans hOl1.2⟩
        have hO : ∀ q, (q < x + 40 ∨ x + 43 ≤ q) → h2 q = h q := fun q hq => (fr q (by omega)).trans (hO q hq)
        refine g_if_eq C dX11_book_31 (tgt := 44) (by decide) (pc' := 34) rfl (fun c31 => absurd c31 (by decide)) (fun _ => ?_)
        refine g_aload_n C 0 dX11_book_34 rfl rfl rfl ?_
        refine gf_11_41 C (hGa) (v := .ref (x + 40)) rfl dX11_book_35 rfl ?_
        refine gf_11_87 C (hBk.1) (v := .int (nI (gN σ 13 + 1))) rfl dX11_book_38 rfl ?_
        refine g_goto C dX11_book_41 (tgt := 46) (by decide) ?_
        exact ret _ _ _ _ dX11_book_46 rfl (⟨by unfold oBook; rw [cIf_t ⟨hp1, Or.inl c9⟩, if_pos hn]; exact ⟨rfl, Cls_mk (InS_mk (hI0) (hI3) (hI03) (hI4) (hI6) (hI8) (by show gN σ 13 + 1 ≤ 12; omega) (hI16) (hIt) (hIk) (hI1) (hIim) (hI25) (hI26) (hI08)) (ClGa.fr hC.2.1 (fun q g1 g2 => hO q (by omega))) (ClSt.fr hC.2.2.1 (fun q g1 g2 => hO q (by omega))) (ClPg.fr hC.2.2.2.1 (fun q g1 g2 => hO q (by omega))) (ClOl.fr hC.2.2.2.2.1 (fun q g1 g2 => hO q (by omega))) (ClPe.fr hC.2.2.2.2.2.1 (fun q g => hO q (by omega))) (hBk) (ClTr.fr hC.2.2.2.2.2.2.2.1 (fun q g1 g2 => hO q (by omega))) (ClIm.fr hC.2.2.2.2.2.2.2.2 (fun q g1 g2 => hO q (by omega)))⟩, fun q g1 g2 => hO q (by omega)⟩)
      · subst er; subst h2
        refine g_if_eq C dX11_book_31 (tgt := 44) (by decide) (pc' := 34) rfl (fun _ => ?_) (fun c31 => absurd (by decide) c31)
        refine g_bipush C (v := -104) dX11_book_44 (by decide) rfl ?_
        exact ret _ _ _ _ dX11_book_46 rfl (⟨by unfold oBook; rw [cIf_t ⟨hp1, Or.inl c9⟩, if_neg (by omega)]; exact ⟨rfl, hC⟩, fun _ _ _ => rfl⟩)
    · intro c9
      refine g_iload_n C 2 dX11_book_12 rfl rfl rfl ?_
      refine g_callSi C (As := [.int (w)]) (kp_X11_isWeather l D b z h (w)) hw_11_100 (by decide) rfl rfl (Nat.le_of_ble_eq_true rfl) ⟨Nat.zero_le _, Nat.zero_le _⟩ dX11_book_13 (pc' := 16) rfl ?_
      rintro r3 h9 ⟨⟨er, hp13⟩ | ⟨er, hp13⟩, e9⟩
      · subst h9; subst er
        have hp13_ := hp13
        obtain ⟨j, rfl, hp13a, hp13b⟩ := hp13_
        refine g_if_ne C dX11_book_16 (tgt := 22) (by decide) (pc' := 19) rfl (fun _ => ?_) (fun c16 => absurd c16 (by decide))
        refine g_aload_n C 0 dX11_book_22 rfl rfl rfl ?_
        refine gf_11_41 C (hGa) (v := .ref (x + 40)) rfl dX11_book_23 rfl ?_
        refine g_iload_n C 1 dX11_book_26 rfl rfl rfl ?_
        refine g_iload_n C 2 dX11_book_27 rfl rfl rfl ?_
        refine g_callVi C (As := [.int (nI (i)), .int (nI (j))]) (q := (RX0, TX0, 3)) (k_X0_append l D b z hI13 hBk (nI (i)) (nI (j))) hw_11_200 (hBk.1) rfl (by decide) rfl rfl (Nat.le_of_ble_eq_true rfl) ⟨Nat.zero_le _, Nat.zero_le _⟩ dX11_book_28 (pc' := 31) rfl ?_
        rintro rr h4 (⟨hn, er, hBk, fr⟩ | ⟨hn, er, e9⟩)
        · subst er
          have hGa : GaAt h4 x (nI (gN σ 1)) := (fr _ (by omega)).trans hGa
          have hSt : StAt D h4 (x + 1) (tnS σ) (nI (gN σ 3)) (nI (gN σ 4)) := ⟨(fr _ (by omega)).trans hSt.1, (fr _ (by omega)).trans hSt.2⟩
          have hPg : PgAt D h4 (x + 3) (gB σ 17) (nI (gN σ 16)) := ⟨(fr _ (by omega)).trans hPg.1, (fr _ (by omega)).trans hPg.2⟩
          have hOl1 : OlAt D h4 (x + 5) (x + 1) (gB σ 7) (gI σ 5) (nI (gN σ 6)) := ⟨(fr _ (by omega)).trans hOl1.1, (fr _ (by omega)).trans hOl1.2⟩
          have hO : ∀ q, (q < x + 40 ∨ x + 43 ≤ q) → h4 q = h q := fun q hq => (fr q (by omega)).trans (hO q hq)
          refine g_if_eq C dX11_book_31 (tgt := 44) (by decide) (pc' := 34) rfl (fun c31 => absurd c31 (by decide)) (fun _ => ?_)
          refine g_aload_n C 0 dX11_book_34 rfl rfl rfl ?_
          refine gf_11_41 C (hGa) (v := .ref (x + 40)) rfl dX11_book_35 rfl ?_
          refine gf_11_87 C (hBk.1) (v := .int (nI (gN σ 13 + 1))) rfl dX11_book_38 rfl ?_
          refine g_goto C dX11_book_41 (tgt := 46) (by decide) ?_
          exact ret _ _ _ _ dX11_book_46 rfl (⟨by unfold oBook; rw [cIf_t ⟨hp1, Or.inr hp13⟩, if_pos hn]; exact ⟨rfl, Cls_mk (InS_mk (hI0) (hI3) (hI03) (hI4) (hI6) (hI8) (by show gN σ 13 + 1 ≤ 12; omega) (hI16) (hIt) (hIk) (hI1) (hIim) (hI25) (hI26) (hI08)) (ClGa.fr hC.2.1 (fun q g1 g2 => hO q (by omega))) (ClSt.fr hC.2.2.1 (fun q g1 g2 => hO q (by omega))) (ClPg.fr hC.2.2.2.1 (fun q g1 g2 => hO q (by omega))) (ClOl.fr hC.2.2.2.2.1 (fun q g1 g2 => hO q (by omega))) (ClPe.fr hC.2.2.2.2.2.1 (fun q g => hO q (by omega))) (hBk) (ClTr.fr hC.2.2.2.2.2.2.2.1 (fun q g1 g2 => hO q (by omega))) (ClIm.fr hC.2.2.2.2.2.2.2.2 (fun q g1 g2 => hO q (by omega)))⟩, fun q g1 g2 => hO q (by omega)⟩)
        · subst er; subst h4
          refine g_if_eq C dX11_book_31 (tgt := 44) (by decide) (pc' := 34) rfl (fun _ => ?_) (fun c31 => absurd (by decide) c31)
          refine g_bipush C (v := -104) dX11_book_44 (by decide) rfl ?_
          exact ret _ _ _ _ dX11_book_46 rfl (⟨by unfold oBook; rw [cIf_t ⟨hp1, Or.inr hp13⟩, if_neg (by omega)]; exact ⟨rfl, hC⟩, fun _ _ _ => rfl⟩)
      · subst h9; subst er
        refine g_if_ne C dX11_book_16 (tgt := 22) (by decide) (pc' := 19) rfl (fun c16 => absurd (by decide) c16) (fun _ => ?_)
        refine g_bipush C (v := -101) dX11_book_19 (by decide) rfl ?_
        exact ret _ _ _ _ dX11_book_21 rfl (⟨by unfold oBook; rw [cIf_f (fun g => g.2.elim c9 hp13)]; exact ⟨rfl, hC⟩, fun _ _ _ => rfl⟩)
  · subst h9; subst er
    refine g_if_eq C dX11_book_4 (tgt := 19) (by decide) (pc' := 7) rfl (fun _ => ?_) (fun c4 => absurd (by decide) c4)
    refine g_bipush C (v := -101) dX11_book_19 (by decide) rfl ?_
    exact ret _ _ _ _ dX11_book_21 rfl (⟨by unfold oBook; rw [cIf_f (fun g => hp1 g.1)]; exact ⟨rfl, hC⟩, fun _ _ _ => rfl⟩)
def upR (σ : sg) (v : Int32) : Nat → Int32 := upd (gB σ 7) (gN σ 3) v
noncomputable def oReading (σ : sg) (v : Int32) : Int32 × sg := cIf (inP 0 2 v) (if 0 < gN σ 3 then (if allF (F_step (tnS σ) (nI (gN σ 4)) (upR σ v)) (gN σ 6) ≤ 0 then (-103, σ) else (nI (cntR (upR σ v) 4), uB σ 7 (upR σ v))) else (-103, σ)) (-101, σ)
theorem ClOl.st {D : va_G} {h : qH} {x : Nat} {σ : sg} (H : OlOK D h (x + 5) (x + 1) (tnS σ) (nI (gN σ 4)) (gB σ 7) (gI σ 5) (gN σ 6)) : ClOl D h x σ := ⟨H.any, fun _ => H⟩
set_option maxHeartbeats 4000000 in
set_option maxRecDepth 100000 in
theorem k_X11_reading (l : Launch) (D : va_G) (b z : Nat) {h : qH} {x : Nat} {σ : sg} (hC : Cls D h x σ) (v : Int32) : qMi l D b yX11_reading cX11_reading 2 .int 5 114 [.ref (x), .int (v)] h z (fun r h' => (r = (oReading σ v).1 ∧ Cls D h' x (oReading σ v).2) ∧ ∀ q, x + 118 ≤ q → q < x + 134 → h' q = h q) := by
  refine q_i (L := [(0, .ref (x)), (1, .int (v))]) (own := RX11) (by decide) rfl (Nat.le_of_ble_eq_true rfl) rfl ?_
  intro X C ret
  have hO : ∀ q, (q < x + 5 ∨ x + 39 ≤ q) → h q = h q := fun _ _ => rfl
  obtain ⟨hIn, hGa, hSt, hPg, hOl, hPe, hBk, hTr, hIm⟩ := id hC
  replace hGa : GaAt h x (nI (gN σ 1)) := hGa
  replace hSt : StAt D h (x + 1) (tnS σ) (nI (gN σ 3)) (nI (gN σ 4)) := hSt
  replace hPg : PgAt D h (x + 3) (gB σ 17) (nI (gN σ 16)) := hPg
  replace hBk : BkAt D h (x + 40) (gB σ 14) (gB σ 15) (nI (gN σ 13)) := hBk
  obtain ⟨hI0, hI3, hI03, hI4, hI6, hI8, hI13, hI16, hIt, hIk, hI1, hIim, hI25, hI26, hI08⟩ := id hIn
  have hOl1 := hOl.1.1
  refine g_iload_n C 1 dX11_reading_0 rfl rfl rfl ?_
  refine g_callSi C (As := [.int (v)]) (kp_X11_isWeather l D b z h (v)) hw_11_100 (by decide) rfl rfl (Nat.le_of_ble_eq_true rfl) ⟨Nat.zero_le _, Nat.zero_le _⟩ dX11_reading_1 (pc' := 4) rfl ?_
  rintro r1 h9 ⟨⟨er, hp1⟩ | ⟨er, hp1⟩, e9⟩
  · subst h9; subst er
    have hp1_ := hp1
    obtain ⟨i, rfl, hp1a, hp1b⟩ := hp1_
    refine g_if_ne C dX11_reading_4 (tgt := 10) (by decide) (pc' := 7) rfl (fun _ => ?_) (fun c4 => absurd c4 (by decide))
    refine g_aload_n C 0 dX11_reading_10 rfl rfl rfl ?_
    refine gf_11_19 C (hGa) (v := .ref (x + 1)) rfl dX11_reading_11 rfl ?_
    refine g_callVi C (As := []) (q := (RX9, TX9, 3)) (k_X9_isRead l D b z hIn.e hSt) hw_11_103 (hSt.1) rfl (by decide) rfl rfl (Nat.le_of_ble_eq_true rfl) ⟨Nat.zero_le _, Nat.zero_le _⟩ dX11_reading_14 (pc' := 17) rfl ?_
    rintro r2 h9 ⟨⟨er, hp14⟩ | ⟨er, hp14⟩, e9⟩
    · subst h9; subst er
      refine g_if_eq C dX11_reading_17 (tgt := 31) (by decide) (pc' := 20) rfl (fun c17 => absurd c17 (by decide)) (fun _ => ?_)
      refine g_aload_n C 0 dX11_reading_20 rfl rfl rfl ?_
      refine gf_11_28 C (hGa) (v := .ref (x + 5)) rfl dX11_reading_21 rfl ?_
      refine g_iload_n C 1 dX11_reading_24 rfl rfl rfl ?_
      refine g_callVi C (As := [.int (nI (i))]) (q := (RX7, TX7, 8)) (k_X7_tell l D b z hI6 hOl.1 (by omega) hSt (by omega) (nI (i))) hw_11_110 (hOl1.1) rfl (by decide) rfl rfl (Nat.le_of_ble_eq_true rfl) ⟨Nat.zero_le _, Nat.zero_le _⟩ dX11_reading_25 (pc' := 28) rfl ?_
      rintro rr h3 ⟨⟨hg, er, hOK⟩ | ⟨hg, er, hOK⟩, fr⟩
      · subst er
        have hGa : GaAt h3 x (nI (gN σ 1)) := (fr _ (by omega)).trans hGa
        have hSt : StAt D h3 (x + 1) (tnS σ) (nI (gN σ 3)) (nI (gN σ 4)) := ⟨(fr _ (by omega)).trans hSt.1, (fr _ (by omega)).trans hSt.2⟩
        have hPg : PgAt D h3 (x + 3) (gB σ 17) (nI (gN σ 16)) := ⟨(fr _ (by omega)).trans hPg.1, (fr _ (by omega)).trans hPg.2⟩
        have hBk : BkAt D h3 (x + 40) (gB σ 14) (gB σ 15) (nI (gN σ 13)) := ⟨(fr _ (by omega)).trans hBk.1, (fr _ (by omega)).trans hBk.2.1, (fr _ (by omega)).trans hBk.2.2⟩
        have hOl1 := hOK.1
        have hO : ∀ q, (q < x + 5 ∨ x + 39 ≤ q) → h3 q = h q := fun q hq => (fr q (by omega)).trans (hO q hq)
        refine g_if_ne C dX11_reading_28 (tgt := 34) (by decide) (pc' := 31) rfl (fun _ => ?_) (fun c28 => absurd c28 (by decide))
        refine g_aload_n C 0 dX11_reading_34 rfl rfl rfl ?_
        refine gf_11_28 C (hGa) (v := .ref (x + 5)) rfl dX11_reading_35 rfl ?_
        refine g_callVi C (As := []) (q := (RX7, TX7, 8)) (k_X7_readingsTold l D b z hOl1) hw_11_113 (hOl1.1) rfl (by decide) rfl rfl (Nat.le_of_ble_eq_true rfl) ⟨Nat.zero_le _, Nat.zero_le _⟩ dX11_reading_38 (pc' := 41) rfl ?_
        rintro r4 h9 ⟨er, e9⟩
        subst h9; subst er
        exact ret _ _ _ _ dX11_reading_41 rfl (⟨by unfold oReading upR; rw [cIf_t hp1, if_pos hp14, if_neg hg]; exact ⟨rfl, Cls_mk (InS_mk (hI0) (hI3) (hI03) (hI4) (hI6) (hI8) (hI13) (hI16) (hIt) (hIk) (hI1) (hIim) (hI25) (hI26) (hI08)) (ClGa.fr hC.2.1 (fun q g1 g2 => hO q (by omega))) (ClSt.fr hC.2.2.1 (fun q g1 g2 => hO q (by omega))) (ClPg.fr hC.2.2.2.1 (fun q g1 g2 => hO q (by omega))) (ClOl.st hOK) (ClPe.fr hC.2.2.2.2.2.1 (fun q g => hO q (by omega))) (ClBk.fr hC.2.2.2.2.2.2.1 (fun q g1 g2 => hO q (by omega))) (ClTr.fr hC.2.2.2.2.2.2.2.1 (fun q g1 g2 => hO q (by omega))) (ClIm.fr hC.2.2.2.2.2.2.2.2 (fun q g1 g2 => hO q (by omega)))⟩, fun q g1 g2 => hO q (by omega)⟩)
      · subst er
        have hGa : GaAt h3 x (nI (gN σ 1)) := (fr _ (by omega)).trans hGa
        have hSt : StAt D h3 (x + 1) (tnS σ) (nI (gN σ 3)) (nI (gN σ 4)) := ⟨(fr _ (by omega)).trans hSt.1, (fr _ (by omega)).trans hSt.2⟩
        have hPg : PgAt D h3 (x + 3) (gB σ 17) (nI (gN σ 16)) := ⟨(fr _ (by omega)).trans hPg.1, (fr _ (by omega)).trans hPg.2⟩
        have hBk : BkAt D h3 (x + 40) (gB σ 14) (gB σ 15) (nI (gN σ 13)) := ⟨(fr _ (by omega)).trans hBk.1, (fr _ (by omega)).trans hBk.2.1, (fr _ (by omega)).trans hBk.2.2⟩
        have hOl1 := hOK.1
        have hO : ∀ q, (q < x + 5 ∨ x + 39 ≤ q) → h3 q = h q := fun q hq => (fr q (by omega)).trans (hO q hq)
        refine g_if_ne C dX11_reading_28 (tgt := 34) (by decide) (pc' := 31) rfl (fun c28 => absurd (by decide) c28) (fun _ => ?_)
        refine g_bipush C (v := -103) dX11_reading_31 (by decide) rfl ?_
        exact ret _ _ _ _ dX11_reading_33 rfl (⟨by unfold oReading upR; rw [cIf_t hp1, if_pos hp14, if_pos hg]; exact ⟨rfl, Cls_mk (InS_mk (hI0) (hI3) (hI03) (hI4) (hI6) (hI8) (hI13) (hI16) (hIt) (hIk) (hI1) (hIim) (hI25) (hI26) (hI08)) (ClGa.fr hC.2.1 (fun q g1 g2 => hO q (by omega))) (ClSt.fr hC.2.2.1 (fun q g1 g2 => hO q (by omega))) (ClPg.fr hC.2.2.2.1 (fun q g1 g2 => hO q (by omega))) (ClOl.st hOK) (ClPe.fr hC.2.2.2.2.2.1 (fun q g => hO q (by omega))) (ClBk.fr hC.2.2.2.2.2.2.1 (fun q g1 g2 => hO q (by omega))) (ClTr.fr hC.2.2.2.2.2.2.2.1 (fun q g1 g2 => hO q (by omega))) (ClIm.fr hC.2.2.2.2.2.2.2.2 (fun q g1 g2 => hO q (by omega)))⟩, fun q g1 g2 => hO q (by omega)⟩)
    · subst h9; subst er
      refine g_if_eq C dX11_reading_17 (tgt := 31) (by decide) (pc' := 20) rfl (fun _ => ?_) (fun c17 => absurd (by decide) c17)
      refine g_bipush C (v := -103) dX11_reading_31 (by decide) rfl ?_
      exact ret _ _ _ _ dX11_reading_33 rfl (⟨by unfold oReading; rw [cIf_t hp1, if_neg hp14]; exact ⟨rfl, hC⟩, fun _ _ _ => rfl⟩)
  · subst h9; subst er
    refine g_if_ne C dX11_reading_4 (tgt := 10) (by decide) (pc' := 7) rfl (fun c4 => absurd (by decide) c4) (fun _ => ?_)
    refine g_bipush C (v := -101) dX11_reading_7 (by decide) rfl ?_
    exact ret _ _ _ _ dX11_reading_9 rfl (⟨by unfold oReading; rw [cIf_f hp1]; exact ⟨rfl, hC⟩, fun _ _ _ => rfl⟩)
def dgt (c : Int32) : Nat := (F_dg c).toNatClampNeg
theorem F_dg_dgt {c : Int32} (h : ¬ F_dg c = -1) : F_dg c = nI (dgt c) ∧ dgt c ≤ 9 := by
  have key : ∃ k, k ≤ 9 ∧ F_dg c = nI k := by
    unfold F_dg at h ⊢
    by_cases h1 : c < 48
    · rw [if_pos h1] at h; exact absurd rfl h
    · rw [if_neg h1] at h ⊢
      by_cases h2 : 57 < c
      · rw [if_pos h2] at h; exact absurd rfl h
      · rw [if_neg h2]
        have h0 : ¬ c < 0 := fun g => h1 (by
          have g1 := Int32.lt_iff_toInt_lt.mp g
          have e0 : (0 : Int32).toInt = 0 := by decide
          have e48 : (48 : Int32).toInt = 48 := by decide
          exact Int32.lt_iff_toInt_lt.mpr (by omega))
        obtain ⟨m, hm, rfl⟩ := nI_of h0
        have a1 : ¬ m < 48 := fun g => h1 ((nI_ltI (a := m) (b := 48) hm (by decide)).mpr g)
        have a2 : ¬ 57 < m := fun g => h2 ((nI_ltI (a := 57) (b := m) (by decide) hm).mpr g)
        exact ⟨m - 48, by omega, nI_sub' (a := m) (b := 48) (by omega)⟩
  obtain ⟨k, hk, e⟩ := key
  have : dgt c = k := by unfold dgt; rw [e]; exact nIc (by omega)
  rw [this]
  exact ⟨e, hk⟩
theorem pg13 {cs : Nat → Int32} (h : pgG cs 13) : F_dg (cs 13) = nI (dgt (cs 13)) ∧ dgt (cs 13) ≤ 9 := F_dg_dgt h
theorem pg12 {cs : Nat → Int32} (h : pgG cs 12) : F_dg (cs 12) = nI (dgt (cs 12)) ∧ 1 ≤ dgt (cs 12) ∧ dgt (cs 12) ≤ 4 := by
  have h2 : ¬ F_dg (cs 12) < 1 ∧ ¬ 4 < F_dg (cs 12) := h
  have h3 := F_dg_dgt (c := cs 12) (fun e => h2.1 (by rw [e]; decide))
  rw [h3.1] at h2
  have a1 : ¬ dgt (cs 12) < 1 := fun g => h2.1 ((nI_ltI (a := dgt (cs 12)) (b := 1) (by omega) (by decide)).mpr g)
  have a2 : ¬ 4 < dgt (cs 12) := fun g => h2.2 ((nI_ltI (a := 4) (b := dgt (cs 12)) (by decide) (by omega)).mpr g)
  exact ⟨h3.1, by omega, by omega⟩
theorem pgT {cs : Nat → Int32} (h : ∀ j, j < 14 → pgG cs j) {v w : Nat} (hv : v < 3) (hw : w < 3) : F_dg (cs (v * 4 + w)) = nI (dgt (cs (v * 4 + w))) ∧ dgt (cs (v * 4 + w)) ≤ 9 := by
  have h1 := h (v * 4 + w) (by omega)
  unfold pgG at h1
  rw [if_neg (by omega), if_neg (by omega), if_neg (by omega), if_neg (by omega), if_neg (by omega)] at h1
  have h2 := h1.1 w (by omega)
  rw [show v * 4 + w - (v * 4 + w) % 4 + w = v * 4 + w by omega] at h2
  exact F_dg_dgt h2
def tnR (cs : Nat → Int32) (i : Nat) : Nat := dgt (cs (i / 3 * 4 + i % 3))
theorem tnR_le {cs : Nat → Int32} (h : ∀ j, j < 14 → pgG cs j) {i : Nat} (hi : i < 9) : F_dg (cs (i / 3 * 4 + i % 3)) = nI (tnR cs i) ∧ tnR cs i ≤ 9 := pgT h (by omega) (by omega)
def stN (σ : sg) : sg := uB (uA (uI (uN (uN (uN (uN (uN (uN (uN (uN σ 0 1) 1 (gN σ 1 + 1)) 3 (dgt (gB σ 17 12))) 4 (dgt (gB σ 17 13))) 6 0) 8 0) 13 0) 16 0) 5 0) 2 (tnR (gB σ 17))) 7 (fun _ => -1)
noncomputable def oStation (σ : sg) : Int32 × sg := cIf (gN σ 16 = 14 ∧ ∀ j, j < 14 → pgG (gB σ 17) j) (nI (dgt (gB σ 17 12)), stN σ) (-103, σ)
theorem F_step_rd {tn : Nat → Int32} {sl : Int32} {rd rd2 : Nat → Int32} (h : ∀ j, 1 ≤ j → j ≤ 4 → rd j = rd2 j) : F_step tn sl rd = F_step tn sl rd2 := by
  funext k v w
  unfold F_step
  have : F_rdg rd k = F_rdg rd2 k := by
    unfold F_rdg
    by_cases g : 1 ≤ k ∧ k ≤ 4
    · rw [if_pos g, if_pos g]; exact h k g.1 g.2
    · rw [if_neg g, if_neg g]
  rw [this]
theorem OlOK.canon {D : va_G} {h h1 : qH} {a s : Nat} {tn : Nat → Int32} {sl : Int32} {rd rd2 : Nat → Int32} {dn : Int32} {wn : Nat} (H : OlOK D h a s tn sl rd dn wn) (hfg : ∀ j, j < 5 → rd j = rd2 j) (e1 : h1 (a + 1) = some (cI D 5 rd2)) (o1 : ∀ q, q ≠ a + 1 → h1 q = h q) : OlOK D h1 a s tn sl rd2 dn wn := by
  obtain ⟨⟨H1, H2⟩, U, B, M, P, ⟨H3, H4, H5, H6⟩, H7⟩ := H
  refine ⟨⟨(o1 _ (by omega)).trans H1, e1⟩, U, B, M, P, ⟨H3.fr (fun q g1 g2 => o1 q (by omega)), H4.fr (fun q g1 g2 => o1 q (by omega)), H5.fr (fun q g1 g2 => o1 q (by omega)), H6.fr (fun q g1 g2 => o1 q (by omega))⟩, ?_⟩
  rw [← F_step_rd (fun j g1 g2 => hfg j (by omega))]
  exact H7
theorem lt9 {P : Nat → Prop} (H : ∀ i j, i < 3 → j < 3 → P (i * 3 + j)) : ∀ j, j < 9 → P j := fun j hj => by
  have := H (j / 3) (j % 3) (by omega) (by omega)
  rw [show j / 3 * 3 + j % 3 = j by omega] at this
  exact this
set_option maxHeartbeats 4000000 in
set_option maxRecDepth 100000 in
theorem k_X11_station (l : Launch) (D : va_G) (b z : Nat) {h : qH} {x : Nat} {σ : sg} (hC : Cls D h x σ) (hs : gN σ 1 + 1 < 2 ^ 30) : qMi l D b yX11_station cX11_station 2 .int 6 128 [.ref (x)] h z (fun r h' => (r = (oStation σ).1 ∧ Cls D h' x (oStation σ).2) ∧ ∀ q, x + 118 ≤ q → q < x + 134 → h' q = h q) := by
  refine q_i (L := [(0, .ref (x))]) (own := RX11) (by decide) rfl (Nat.le_of_ble_eq_true rfl) rfl ?_
  intro X C ret
  have hO : ∀ q, (x + 43 ≤ q ∧ ¬ q = x + 79) → h q = h q := fun _ _ => rfl
  obtain ⟨hIn, hGa, hSt, hPg, hOl, hPe, hBk, hTr, hIm⟩ := id hC
  replace hGa : GaAt h x (nI (gN σ 1)) := hGa
  replace hSt : StAt D h (x + 1) (tnS σ) (nI (gN σ 3)) (nI (gN σ 4)) := hSt
  replace hPg : PgAt D h (x + 3) (gB σ 17) (nI (gN σ 16)) := hPg
  replace hBk : BkAt D h (x + 40) (gB σ 14) (gB σ 15) (nI (gN σ 13)) := hBk
  obtain ⟨hI0, hI3, hI03, hI4, hI6, hI8, hI13, hI16, hIt, hIk, hI1, hIim, hI25, hI26, hI08⟩ := id hIn
  have hOl1 := hOl.1.1
  have hAny := hOl.1
  obtain ⟨qa, ⟨hnp, ⟨pf, hpf, hpf1, hpf0⟩, hkp⟩, hqx, hqj⟩ := hPe
  obtain ⟨pd, pp, kp, rd0, dn0, w0, ws0, rs0, n0, hIm, hIo, hIb, hkp2, hkiff, hkim⟩ := hIm
  refine g_aload_n C 0 dX11_station_0 rfl rfl rfl ?_
  refine gf_11_13 C (hGa) (v := .ref (x + 3)) rfl dX11_station_1 rfl ?_
  refine g_callVi C (As := []) (q := (RX8, TX8, 2)) (k_X8_isStation l D b z hI16 hPg) hw_11_75 (hPg.1) rfl (by decide) rfl rfl (Nat.le_of_ble_eq_true rfl) ⟨Nat.zero_le _, Nat.zero_le _⟩ dX11_station_4 (pc' := 7) rfl ?_
  rintro r1 h9 ⟨⟨er, hp4⟩ | ⟨er, hp4⟩, e9⟩
  · subst h9; subst er
    refine g_if_ne C dX11_station_7 (tgt := 13) (by decide) (pc' := 10) rfl (fun _ => ?_) (fun c7 => absurd c7 (by decide))
    refine g_aload_n C 0 dX11_station_13 rfl rfl rfl ?_
    refine gf_11_19 C (hGa) (v := .ref (x + 1)) rfl dX11_station_14 rfl ?_
    refine g_aload_n C 0 dX11_station_17 rfl rfl rfl ?_
    refine gf_11_13 C (hGa) (v := .ref (x + 3)) rfl dX11_station_18 rfl ?_
    refine g_callVv C (As := [.ref (x + 3)]) (q := (RX9, TX9, 3)) (k_X9_read l D b z hIn.e hSt hI16 (by have := hp4.1; omega) hPg (by omega)) hw_11_79 (hSt.1) rfl (by decide) rfl rfl (Nat.le_of_ble_eq_true rfl) ⟨Nat.zero_le _, Nat.zero_le _⟩ dX11_station_21 (pc' := 24) rfl ?_
    rintro h2 ⟨⟨tn', hSt, htn⟩, fr⟩
    have h12 := pg12 (hp4.2 12 (by decide)); have h13 := pg13 (hp4.2 13 (by decide))
    rw [h12.1, h13.1] at hSt
    have hGa : GaAt h2 x (nI (gN σ 1)) := (fr _ (by omega)).trans hGa
    have hPg : PgAt D h2 (x + 3) (gB σ 17) (nI (gN σ 16)) := ⟨(fr _ (by omega)).trans hPg.1, (fr _ (by omega)).trans hPg.2⟩
    have hBk : BkAt D h2 (x + 40) (gB σ 14) (gB σ 15) (nI (gN σ 13)) := ⟨(fr _ (by omega)).trans hBk.1, (fr _ (by omega)).trans hBk.2.1, (fr _ (by omega)).trans hBk.2.2⟩
    have hAny : OlAny D h2 (x + 5) (x + 1) (gB σ 7) (gI σ 5) (nI (gN σ 6)) := hAny.fr (fun q g1 g2 => fr q (by omega))
    have hpf : h2 (x + 39) = some (cQ D 4 (pf)) := (fr _ (by omega)).trans hpf
    have hIm : ImAt D h2 (x + 79) (pd) (pp) (nI (kp)) := ⟨(fr _ (by omega)).trans hIm.1, (fr _ (by omega)).trans hIm.2⟩
    have hO : ∀ q, (x + 43 ≤ q ∧ ¬ q = x + 79) → h2 q = h q := fun q hq => (fr q (by omega)).trans (hO q hq)
    refine g_canon C (hSt.2) (g := fun i => nI (tnR (gB σ 17) i)) (fun j hj => (by have := lt9 (P := fun j => tn' j = F_dg (gB σ 17 (j / 3 * 4 + j % 3))) (fun i k hi hk => by have := htn i k hi hk; rw [this]; congr 2; omega) j hj; exact this.trans (tnR_le hp4.2 hj).1)) (fun h3 e4 o5 => ?_)
    have hSt : StAt D h3 (x + 1) (fun i => nI (tnR (gB σ 17) i)) (nI (dgt (gB σ 17 12))) (nI (dgt (gB σ 17 13))) := ⟨(o5 _ (by omega)).trans hSt.1, e4⟩
    have hGa : GaAt h3 x (nI (gN σ 1)) := (o5 _ (by omega)).trans hGa
    have hPg : PgAt D h3 (x + 3) (gB σ 17) (nI (gN σ 16)) := ⟨(o5 _ (by omega)).trans hPg.1, (o5 _ (by omega)).trans hPg.2⟩
    have hBk : BkAt D h3 (x + 40) (gB σ 14) (gB σ 15) (nI (gN σ 13)) := ⟨(o5 _ (by omega)).trans hBk.1, (o5 _ (by omega)).trans hBk.2.1, (o5 _ (by omega)).trans hBk.2.2⟩
    have hAny : OlAny D h3 (x + 5) (x + 1) (gB σ 7) (gI σ 5) (nI (gN σ 6)) := hAny.fr (fun q g1 g2 => o5 q (by omega))
    have hpf : h3 (x + 39) = some (cQ D 4 (pf)) := (o5 _ (by omega)).trans hpf
    have hIm : ImAt D h3 (x + 79) (pd) (pp) (nI (kp)) := ⟨(o5 _ (by omega)).trans hIm.1, (o5 _ (by omega)).trans hIm.2⟩
    have hO : ∀ q, (x + 43 ≤ q ∧ ¬ q = x + 79) → h3 q = h q := fun q hq => (o5 q (by omega)).trans (hO q hq)
    refine g_aload_n C 0 dX11_station_24 rfl rfl rfl ?_
    refine gf_11_28 C (hGa) (v := .ref (x + 5)) rfl dX11_station_25 rfl ?_
    refine g_iconst C (v := 0) dX11_station_28 (by decide) rfl ?_
    refine g_callVv C (As := [.int (0)]) (q := (RX7, TX7, 8)) (k_X7_startAnew l D b z hAny (by omega) hSt (by omega) (f := 0) (by decide)) hw_11_83 (hAny.1.1) rfl (by decide) rfl rfl (Nat.le_of_ble_eq_true rfl) ⟨Nat.zero_le _, Nat.zero_le _⟩ dX11_station_29 (pc' := 32) rfl ?_
    rintro h6 ⟨⟨rd', hOK, hrd⟩, fr⟩
    have hGa : GaAt h6 x (nI (gN σ 1)) := (fr _ (by omega)).trans hGa
    have hSt : StAt D h6 (x + 1) (fun i => nI (tnR (gB σ 17) i)) (nI (dgt (gB σ 17 12))) (nI (dgt (gB σ 17 13))) := ⟨(fr _ (by omega)).trans hSt.1, (fr _ (by omega)).trans hSt.2⟩
    have hPg : PgAt D h6 (x + 3) (gB σ 17) (nI (gN σ 16)) := ⟨(fr _ (by omega)).trans hPg.1, (fr _ (by omega)).trans hPg.2⟩
    have hBk : BkAt D h6 (x + 40) (gB σ 14) (gB σ 15) (nI (gN σ 13)) := ⟨(fr _ (by omega)).trans hBk.1, (fr _ (by omega)).trans hBk.2.1, (fr _ (by omega)).trans hBk.2.2⟩
    have hpf : h6 (x + 39) = some (cQ D 4 (pf)) := (fr _ (by omega)).trans hpf
    have hIm : ImAt D h6 (x + 79) (pd) (pp) (nI (kp)) := ⟨(fr _ (by omega)).trans hIm.1, (fr _ (by omega)).trans hIm.2⟩
    have hO : ∀ q, (x + 43 ≤ q ∧ ¬ q = x + 79) → h6 q = h q := fun q hq => (fr q (by omega)).trans (hO q hq)
    refine g_canon C (hOK.1.2) (g := fun _ => -1) (hrd) (fun h7 e8 o9 => ?_)
    have hOK := hOK.canon hrd e8 o9
    have hGa : GaAt h7 x (nI (gN σ 1)) := (o9 _ (by omega)).trans hGa
    have hSt : StAt D h7 (x + 1) (fun i => nI (tnR (gB σ 17) i)) (nI (dgt (gB σ 17 12))) (nI (dgt (gB σ 17 13))) := ⟨(o9 _ (by omega)).trans hSt.1, (o9 _ (by omega)).trans hSt.2⟩
    have hPg : PgAt D h7 (x + 3) (gB σ 17) (nI (gN σ 16)) := ⟨(o9 _ (by omega)).trans hPg.1, (o9 _ (by omega)).trans hPg.2⟩
    have hBk : BkAt D h7 (x + 40) (gB σ 14) (gB σ 15) (nI (gN σ 13)) := ⟨(o9 _ (by omega)).trans hBk.1, (o9 _ (by omega)).trans hBk.2.1, (o9 _ (by omega)).trans hBk.2.2⟩
    have hpf : h7 (x + 39) = some (cQ D 4 (pf)) := (o9 _ (by omega)).trans hpf
    have hIm : ImAt D h7 (x + 79) (pd) (pp) (nI (kp)) := ⟨(o9 _ (by omega)).trans hIm.1, (o9 _ (by omega)).trans hIm.2⟩
    have hO : ∀ q, (x + 43 ≤ q ∧ ¬ q = x + 79) → h7 q = h q := fun q hq => (o9 q (by omega)).trans (hO q hq)
    refine g_iconst C (v := 0) dX11_station_32 (by decide) rfl ?_
    refine g_istore_n C ([(1, .int (0)), (0, .ref (x))]) dX11_station_33 rfl (by decide) rfl rfl ?_
    refine g_iload_n C 0 dX11_station_34 rfl rfl rfl ?_
    refine g_iconst C (v := 4) dX11_station_35 (by decide) rfl ?_
    refine g_icmp_ge C dX11_station_36 (tgt := 52) (by decide) (pc' := 39) rfl (fun c36 => absurd c36 (by decide)) (fun _ => ?_)
    refine g_aload_n C 1 dX11_station_39 rfl rfl rfl ?_
    refine gf_11_34 C (hGa) (v := .ref (x + 39)) rfl dX11_station_40 rfl ?_
    refine g_iload_n C 0 dX11_station_43 rfl rfl rfl ?_
    refine g_null C dX11_station_44 rfl ?_
    refine g_aastN C (hpf) (j := 0) rfl (by omega) (by decide) dX11_station_45 (pc' := 46) rfl (fun h10 e11 o12 => ?_)
    have hpf : h10 (x + 39) = some (cQ D 4 (va_up (pf) (0) (none))) := e11
    have hGa : GaAt h10 x (nI (gN σ 1)) := (o12 _ (by omega)).trans hGa
    have hSt : StAt D h10 (x + 1) (fun i => nI (tnR (gB σ 17) i)) (nI (dgt (gB σ 17 12))) (nI (dgt (gB σ 17 13))) := ⟨(o12 _ (by omega)).trans hSt.1, (o12 _ (by omega)).trans hSt.2⟩
    have hPg : PgAt D h10 (x + 3) (gB σ 17) (nI (gN σ 16)) := ⟨(o12 _ (by omega)).trans hPg.1, (o12 _ (by omega)).trans hPg.2⟩
    have hBk : BkAt D h10 (x + 40) (gB σ 14) (gB σ 15) (nI (gN σ 13)) := ⟨(o12 _ (by omega)).trans hBk.1, (o12 _ (by omega)).trans hBk.2.1, (o12 _ (by omega)).trans hBk.2.2⟩
    have hOK : OlOK D h10 (x + 5) (x + 1) (fun i => nI (tnR (gB σ 17) i)) (nI (dgt (gB σ 17 13))) (fun _ => -1) 0 0 := hOK.fr (fun q g1 g2 => o12 q (by omega))
    have hIm : ImAt D h10 (x + 79) (pd) (pp) (nI (kp)) := ⟨(o12 _ (by omega)).trans hIm.1, (o12 _ (by omega)).trans hIm.2⟩
    have hO : ∀ q, (x + 43 ≤ q ∧ ¬ q = x + 79) → h10 q = h q := fun q hq => (o12 q (by omega)).trans (hO q hq)
    refine g_iinc C (v := 1) 0 ([(1, .int (1)), (0, .ref (x))]) dX11_station_46 rfl (by decide) (by decide) rfl rfl ?_
    refine g_goto C dX11_station_49 (tgt := 34) (by decide) ?_
    refine g_iload_n C 0 dX11_station_34 rfl rfl rfl ?_
    refine g_iconst C (v := 4) dX11_station_35 (by decide) rfl ?_
    refine g_icmp_ge C dX11_station_36 (tgt := 52) (by decide) (pc' := 39) rfl (fun c36 => absurd c36 (by decide)) (fun _ => ?_)
    refine g_aload_n C 1 dX11_station_39 rfl rfl rfl ?_
    refine gf_11_34 C (hGa) (v := .ref (x + 39)) rfl dX11_station_40 rfl ?_
    refine g_iload_n C 0 dX11_station_43 rfl rfl rfl ?_
    refine g_null C dX11_station_44 rfl ?_
    refine g_aastN C (hpf) (j := 1) rfl (by omega) (by decide) dX11_station_45 (pc' := 46) rfl (fun h13 e14 o15 => ?_)
    have hpf : h13 (x + 39) = some (cQ D 4 (va_up (va_up (pf) (0) (none)) (1) (none))) := e14
    have hGa : GaAt h13 x (nI (gN σ 1)) := (o15 _ (by omega)).trans hGa
    have hSt : StAt D h13 (x + 1) (fun i => nI (tnR (gB σ 17) i)) (nI (dgt (gB σ 17 12))) (nI (dgt (gB σ 17 13))) := ⟨(o15 _ (by omega)).trans hSt.1, (o15 _ (by omega)).trans hSt.2⟩
    have hPg : PgAt D h13 (x + 3) (gB σ 17) (nI (gN σ 16)) := ⟨(o15 _ (by omega)).trans hPg.1, (o15 _ (by omega)).trans hPg.2⟩
    have hBk : BkAt D h13 (x + 40) (gB σ 14) (gB σ 15) (nI (gN σ 13)) := ⟨(o15 _ (by omega)).trans hBk.1, (o15 _ (by omega)).trans hBk.2.1, (o15 _ (by omega)).trans hBk.2.2⟩
    have hOK : OlOK D h13 (x + 5) (x + 1) (fun i => nI (tnR (gB σ 17) i)) (nI (dgt (gB σ 17 13))) (fun _ => -1) 0 0 := hOK.fr (fun q g1 g2 => o15 q (by omega))
    have hIm : ImAt D h13 (x + 79) (pd) (pp) (nI (kp)) := ⟨(o15 _ (by omega)).trans hIm.1, (o15 _ (by omega)).trans hIm.2⟩
    have hO : ∀ q, (x + 43 ≤ q ∧ ¬ q = x + 79) → h13 q = h q := fun q hq => (o15 q (by omega)).trans (hO q hq)
    refine g_iinc C (v := 2) 0 ([(1, .int (2)), (0, .ref (x))]) dX11_station_46 rfl (by decide) (by decide) rfl rfl ?_
    refine g_goto C dX11_station_49 (tgt := 34) (by decide) ?_
    refine g_iload_n C 0 dX11_station_34 rfl rfl rfl ?_
    refine g_iconst C (v := 4) dX11_station_35 (by decide) rfl ?_
    refine g_icmp_ge C dX11_station_36 (tgt := 52) (by decide) (pc' := 39) rfl (fun c36 => absurd c36 (by decide)) (fun _ => ?_)
    refine g_aload_n C 1 dX11_station_39 rfl rfl rfl ?_
    refine gf_11_34 C (hGa) (v := .ref (x + 39)) rfl dX11_station_40 rfl ?_
    refine g_iload_n C 0 dX11_station_43 rfl rfl rfl ?_
    refine g_null C dX11_station_44 rfl ?_
    refine g_aastN C (hpf) (j := 2) rfl (by omega) (by decide) dX11_station_45 (pc' := 46) rfl (fun h16 e17 o18 => ?_)
    have hpf : h16 (x + 39) = some (cQ D 4 (va_up (va_up (va_up (pf) (0) (none)) (1) (none)) (2) (none))) := e17
    have hGa : GaAt h16 x (nI (gN σ 1)) := (o18 _ (by omega)).trans hGa
    have hSt : StAt D h16 (x + 1) (fun i => nI (tnR (gB σ 17) i)) (nI (dgt (gB σ 17 12))) (nI (dgt (gB σ 17 13))) := ⟨(o18 _ (by omega)).trans hSt.1, (o18 _ (by omega)).trans hSt.2⟩
    have hPg : PgAt D h16 (x + 3) (gB σ 17) (nI (gN σ 16)) := ⟨(o18 _ (by omega)).trans hPg.1, (o18 _ (by omega)).trans hPg.2⟩
    have hBk : BkAt D h16 (x + 40) (gB σ 14) (gB σ 15) (nI (gN σ 13)) := ⟨(o18 _ (by omega)).trans hBk.1, (o18 _ (by omega)).trans hBk.2.1, (o18 _ (by omega)).trans hBk.2.2⟩
    have hOK : OlOK D h16 (x + 5) (x + 1) (fun i => nI (tnR (gB σ 17) i)) (nI (dgt (gB σ 17 13))) (fun _ => -1) 0 0 := hOK.fr (fun q g1 g2 => o18 q (by omega))
    have hIm : ImAt D h16 (x + 79) (pd) (pp) (nI (kp)) := ⟨(o18 _ (by omega)).trans hIm.1, (o18 _ (by omega)).trans hIm.2⟩
    have hO : ∀ q, (x + 43 ≤ q ∧ ¬ q = x + 79) → h16 q = h q := fun q hq => (o18 q (by omega)).trans (hO q hq)
    refine g_iinc C (v := 3) 0 ([(1, .int (3)), (0, .ref (x))]) dX11_station_46 rfl (by decide) (by decide) rfl rfl ?_
    refine g_goto C dX11_station_49 (tgt := 34) (by decide) ?_
    refine g_iload_n C 0 dX11_station_34 rfl rfl rfl ?_
    refine g_iconst C (v := 4) dX11_station_35 (by decide) rfl ?_
    refine g_icmp_ge C dX11_station_36 (tgt := 52) (by decide) (pc' := 39) rfl (fun c36 => absurd c36 (by decide)) (fun _ => ?_)
    refine g_aload_n C 1 dX11_station_39 rfl rfl rfl ?_
    refine gf_11_34 C (hGa) (v := .ref (x + 39)) rfl dX11_station_40 rfl ?_
    refine g_iload_n C 0 dX11_station_43 rfl rfl rfl ?_
    refine g_null C dX11_station_44 rfl ?_
    refine g_aastN C (hpf) (j := 3) rfl (by omega) (by decide) dX11_station_45 (pc' := 46) rfl (fun h19 e20 o21 => ?_)
    have hpf : h19 (x + 39) = some (cQ D 4 (va_up (va_up (va_up (va_up (pf) (0) (none)) (1) (none)) (2) (none)) (3) (none))) := e20
    have hGa : GaAt h19 x (nI (gN σ 1)) := (o21 _ (by omega)).trans hGa
    have hSt : StAt D h19 (x + 1) (fun i => nI (tnR (gB σ 17) i)) (nI (dgt (gB σ 17 12))) (nI (dgt (gB σ 17 13))) := ⟨(o21 _ (by omega)).trans hSt.1, (o21 _ (by omega)).trans hSt.2⟩
    have hPg : PgAt D h19 (x + 3) (gB σ 17) (nI (gN σ 16)) := ⟨(o21 _ (by omega)).trans hPg.1, (o21 _ (by omega)).trans hPg.2⟩
    have hBk : BkAt D h19 (x + 40) (gB σ 14) (gB σ 15) (nI (gN σ 13)) := ⟨(o21 _ (by omega)).trans hBk.1, (o21 _ (by omega)).trans hBk.2.1, (o21 _ (by omega)).trans hBk.2.2⟩
    have hOK : OlOK D h19 (x + 5) (x + 1) (fun i => nI (tnR (gB σ 17) i)) (nI (dgt (gB σ 17 13))) (fun _ => -1) 0 0 := hOK.fr (fun q g1 g2 => o21 q (by omega))
    have hIm : ImAt D h19 (x + 79) (pd) (pp) (nI (kp)) := ⟨(o21 _ (by omega)).trans hIm.1, (o21 _ (by omega)).trans hIm.2⟩
    have hO : ∀ q, (x + 43 ≤ q ∧ ¬ q = x + 79) → h19 q = h q := fun q hq => (o21 q (by omega)).trans (hO q hq)
    refine g_iinc C (v := 4) 0 ([(1, .int (4)), (0, .ref (x))]) dX11_station_46 rfl (by decide) (by decide) rfl rfl ?_
    refine g_goto C dX11_station_49 (tgt := 34) (by decide) ?_
    refine g_iload_n C 0 dX11_station_34 rfl rfl rfl ?_
    refine g_iconst C (v := 4) dX11_station_35 (by decide) rfl ?_
    refine g_icmp_ge C dX11_station_36 (tgt := 52) (by decide) (pc' := 39) rfl (fun _ => ?_) (fun c36 => absurd (by decide) c36)
    refine g_aload_n C 1 dX11_station_52 rfl rfl rfl ?_
    refine gf_11_41 C (hGa) (v := .ref (x + 40)) rfl dX11_station_53 rfl ?_
    refine g_iconst C (v := 0) dX11_station_56 (by decide) rfl ?_
    refine pf_11_87 C (hBk.1) (v := .int (0)) rfl rfl (Nat.le_of_ble_eq_true rfl) dX11_station_57 (pc' := 60) rfl (fun h22 e23 o24 => ?_)
    have hBk : BkAt D h22 (x + 40) (gB σ 14) (gB σ 15) (0) := ⟨e23, (o24 _ (by omega)).trans hBk.2.1, (o24 _ (by omega)).trans hBk.2.2⟩
    have hGa : GaAt h22 x (nI (gN σ 1)) := (o24 _ (by omega)).trans hGa
    have hSt : StAt D h22 (x + 1) (fun i => nI (tnR (gB σ 17) i)) (nI (dgt (gB σ 17 12))) (nI (dgt (gB σ 17 13))) := ⟨(o24 _ (by omega)).trans hSt.1, (o24 _ (by omega)).trans hSt.2⟩
    have hPg : PgAt D h22 (x + 3) (gB σ 17) (nI (gN σ 16)) := ⟨(o24 _ (by omega)).trans hPg.1, (o24 _ (by omega)).trans hPg.2⟩
    have hOK : OlOK D h22 (x + 5) (x + 1) (fun i => nI (tnR (gB σ 17) i)) (nI (dgt (gB σ 17 13))) (fun _ => -1) 0 0 := hOK.fr (fun q g1 g2 => o24 q (by omega))
    have hpf : h22 (x + 39) = some (cQ D 4 (va_up (va_up (va_up (va_up (pf) (0) (none)) (1) (none)) (2) (none)) (3) (none))) := (o24 _ (by omega)).trans hpf
    have hIm : ImAt D h22 (x + 79) (pd) (pp) (nI (kp)) := ⟨(o24 _ (by omega)).trans hIm.1, (o24 _ (by omega)).trans hIm.2⟩
    have hO : ∀ q, (x + 43 ≤ q ∧ ¬ q = x + 79) → h22 q = h q := fun q hq => (o24 q (by omega)).trans (hO q hq)
    refine g_aload_n C 1 dX11_station_60 rfl rfl rfl ?_
    refine gf_11_59 C (hGa) (v := .ref (x + 79)) rfl dX11_station_61 rfl ?_
    refine g_iconst C (v := 0) dX11_station_64 (by decide) rfl ?_
    refine pf_11_90 C (hIm.1) (v := .int (0)) rfl rfl (Nat.le_of_ble_eq_true rfl) dX11_station_65 (pc' := 68) rfl (fun h25 e26 o27 => ?_)
    have hIm : ImAt D h25 (x + 79) (pd) (pp) (0) := ⟨e26, (o27 _ (by omega)).trans hIm.2⟩
    have hGa : GaAt h25 x (nI (gN σ 1)) := (o27 _ (by omega)).trans hGa
    have hSt : StAt D h25 (x + 1) (fun i => nI (tnR (gB σ 17) i)) (nI (dgt (gB σ 17 12))) (nI (dgt (gB σ 17 13))) := ⟨(o27 _ (by omega)).trans hSt.1, (o27 _ (by omega)).trans hSt.2⟩
    have hPg : PgAt D h25 (x + 3) (gB σ 17) (nI (gN σ 16)) := ⟨(o27 _ (by omega)).trans hPg.1, (o27 _ (by omega)).trans hPg.2⟩
    have hBk : BkAt D h25 (x + 40) (gB σ 14) (gB σ 15) (0) := ⟨(o27 _ (by omega)).trans hBk.1, (o27 _ (by omega)).trans hBk.2.1, (o27 _ (by omega)).trans hBk.2.2⟩
    have hOK : OlOK D h25 (x + 5) (x + 1) (fun i => nI (tnR (gB σ 17) i)) (nI (dgt (gB σ 17 13))) (fun _ => -1) 0 0 := hOK.fr (fun q g1 g2 => o27 q (by omega))
    have hpf : h25 (x + 39) = some (cQ D 4 (va_up (va_up (va_up (va_up (pf) (0) (none)) (1) (none)) (2) (none)) (3) (none))) := (o27 _ (by omega)).trans hpf
    have hO : ∀ q, (x + 43 ≤ q ∧ ¬ q = x + 79) → h25 q = h q := fun q hq => (o27 q (by omega)).trans (hO q hq)
    refine g_aload_n C 1 dX11_station_68 rfl rfl rfl ?_
    refine gf_11_13 C (hGa) (v := .ref (x + 3)) rfl dX11_station_69 rfl ?_
    refine g_iconst C (v := 0) dX11_station_72 (by decide) rfl ?_
    refine pf_11_67 C (hPg.1) (v := .int (0)) rfl rfl (Nat.le_of_ble_eq_true rfl) dX11_station_73 (pc' := 76) rfl (fun h28 e29 o30 => ?_)
    have hPg : PgAt D h28 (x + 3) (gB σ 17) (0) := ⟨e29, (o30 _ (by omega)).trans hPg.2⟩
    have hGa : GaAt h28 x (nI (gN σ 1)) := (o30 _ (by omega)).trans hGa
    have hSt : StAt D h28 (x + 1) (fun i => nI (tnR (gB σ 17) i)) (nI (dgt (gB σ 17 12))) (nI (dgt (gB σ 17 13))) := ⟨(o30 _ (by omega)).trans hSt.1, (o30 _ (by omega)).trans hSt.2⟩
    have hBk : BkAt D h28 (x + 40) (gB σ 14) (gB σ 15) (0) := ⟨(o30 _ (by omega)).trans hBk.1, (o30 _ (by omega)).trans hBk.2.1, (o30 _ (by omega)).trans hBk.2.2⟩
    have hOK : OlOK D h28 (x + 5) (x + 1) (fun i => nI (tnR (gB σ 17) i)) (nI (dgt (gB σ 17 13))) (fun _ => -1) 0 0 := hOK.fr (fun q g1 g2 => o30 q (by omega))
    have hpf : h28 (x + 39) = some (cQ D 4 (va_up (va_up (va_up (va_up (pf) (0) (none)) (1) (none)) (2) (none)) (3) (none))) := (o30 _ (by omega)).trans hpf
    have hIm : ImAt D h28 (x + 79) (pd) (pp) (0) := ⟨(o30 _ (by omega)).trans hIm.1, (o30 _ (by omega)).trans hIm.2⟩
    have hO : ∀ q, (x + 43 ≤ q ∧ ¬ q = x + 79) → h28 q = h q := fun q hq => (o30 q (by omega)).trans (hO q hq)
    refine g_aload_n C 1 dX11_station_76 rfl rfl rfl ?_
    refine g_dup C rfl dX11_station_77 rfl ?_
    refine gf_11_94 C (hGa) (v := .int (nI (gN σ 1))) rfl dX11_station_78 rfl ?_
    refine g_iconst C (v := 1) dX11_station_81 (by decide) rfl ?_
    refine g_iadd C dX11_station_82 rfl ?_
    refine g_topi (y := nI (gN σ 1 + 1)) (nI_add _ _) ?_
    refine pf_11_94 C (hGa) (v := .int (nI ((gN σ 1 + 1)))) rfl rfl (Nat.le_of_ble_eq_true rfl) dX11_station_83 (pc' := 86) rfl (fun h31 e32 o33 => ?_)
    have hGa : GaAt h31 x (nI ((gN σ 1 + 1))) := e32
    have hSt : StAt D h31 (x + 1) (fun i => nI (tnR (gB σ 17) i)) (nI (dgt (gB σ 17 12))) (nI (dgt (gB σ 17 13))) := ⟨(o33 _ (by omega)).trans hSt.1, (o33 _ (by omega)).trans hSt.2⟩
    have hPg : PgAt D h31 (x + 3) (gB σ 17) (0) := ⟨(o33 _ (by omega)).trans hPg.1, (o33 _ (by omega)).trans hPg.2⟩
    have hBk : BkAt D h31 (x + 40) (gB σ 14) (gB σ 15) (0) := ⟨(o33 _ (by omega)).trans hBk.1, (o33 _ (by omega)).trans hBk.2.1, (o33 _ (by omega)).trans hBk.2.2⟩
    have hOK : OlOK D h31 (x + 5) (x + 1) (fun i => nI (tnR (gB σ 17) i)) (nI (dgt (gB σ 17 13))) (fun _ => -1) 0 0 := hOK.fr (fun q g1 g2 => o33 q (by omega))
    have hpf : h31 (x + 39) = some (cQ D 4 (va_up (va_up (va_up (va_up (pf) (0) (none)) (1) (none)) (2) (none)) (3) (none))) := (o33 _ (by omega)).trans hpf
    have hIm : ImAt D h31 (x + 79) (pd) (pp) (0) := ⟨(o33 _ (by omega)).trans hIm.1, (o33 _ (by omega)).trans hIm.2⟩
    have hO : ∀ q, (x + 43 ≤ q ∧ ¬ q = x + 79) → h31 q = h q := fun q hq => (o33 q (by omega)).trans (hO q hq)
    refine g_aload_n C 1 dX11_station_86 rfl rfl rfl ?_
    refine gf_11_19 C (hGa) (v := .ref (x + 1)) rfl dX11_station_87 rfl ?_
    refine gf_11_97 C (hSt.1) (v := .int (nI (dgt (gB σ 17 12)))) rfl dX11_station_90 rfl ?_
    exact ret _ _ _ _ dX11_station_93 rfl (⟨by unfold oStation; rw [cIf_t hp4]; exact ⟨rfl, Cls_mk (InS_mk (Nat.le_refl _) (h12.2.2) (by show 1 = 1 ↔ 1 ≤ dgt (gB σ 17 12); omega) (by show dgt (gB σ 17 13) < 10; omega) (by show 0 < 3; decide) (Nat.zero_le _) (Nat.zero_le _) (Nat.zero_le _) (fun i hi => Nat.le_succ_of_le (tnR_le hp4.2 hi).2) (fun i hi => absurd hi (Nat.not_lt_zero _)) (hs) ((fun g => absurd (show gN σ 26 = gN σ 1 + 1 from g.2) (by omega))) (hI25) (by show gN σ 26 ≤ gN σ 1 + 1; omega) (fun _ => rfl)) (hGa) (hSt) (hPg) (ClOl.st hOK) (⟨fun _ => x + 134, ⟨Nat.zero_le _, ⟨_, hpf, fun i hi => absurd hi (Nat.not_lt_zero _), fun i _ hi => by rcases (show i = 0 ∨ i = 1 ∨ i = 2 ∨ i = 3 by omega) with rfl | rfl | rfl | rfl <;> simp [va_up]⟩, fun i hi => absurd hi (Nat.not_lt_zero _)⟩, fun i hi => absurd hi (Nat.not_lt_zero _), fun i j hi => absurd hi (Nat.not_lt_zero _)⟩) (hBk) (ClTr.fr hC.2.2.2.2.2.2.2.1 (fun q g1 g2 => hO q (by omega))) (⟨pd, pp, 0, rd0, dn0, w0, ws0, rs0, n0, hIm, hIo.fr (fun q g1 g2 => hO q (by omega)), ⟨(hO _ (by omega)).trans hIb.1, (hO _ (by omega)).trans hIb.2.1, (hO _ (by omega)).trans hIb.2.2⟩, by decide, ⟨fun g => absurd g (by decide), (fun g => absurd (show gN σ 26 = gN σ 1 + 1 from g.2) (by omega))⟩, (fun g => absurd (show gN σ 26 = gN σ 1 + 1 from g.2) (by omega))⟩)⟩, fun q g1 g2 => hO q (by omega)⟩)
  · subst h9; subst er
    refine g_if_ne C dX11_station_7 (tgt := 13) (by decide) (pc' := 10) rfl (fun c7 => absurd (by decide) c7) (fun _ => ?_)
    refine g_bipush C (v := -103) dX11_station_10 (by decide) rfl ?_
    exact ret _ _ _ _ dX11_station_12 rfl (⟨by unfold oStation; rw [cIf_f hp4]; exact ⟨rfl, hC⟩, fun _ _ _ => rfl⟩)

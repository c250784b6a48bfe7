/-! days by a seed, from the day now -/
theorem lN_ofI {n : Nat} (h : n < 2 ^ 31) : (nI n).toInt64 = lN n := Int64.toInt_inj.mp (by rw [Int32.toInt_toInt64, nI_toInt h, lN_toInt h])
set_option maxHeartbeats 4000000 in
set_option maxRecDepth 100000 in
theorem k_X10_begin (l : Launch) (D : va_G) (b z : Nat) {h : qH} {a s : Nat} {dr : Nat → Int32} {da : Int32} {sd : Int64} {wt pd sp : Int32} (hTr : TrAt D h a s dr da sd wt pd sp) {rd : Nat → Int32} {dn w0 : Int32} (hAny : OlAny D h (a + 1) s rd dn w0) {tn : Nat → Int32} {e : Nat} (he : e < 10) {sl : Int32} (hSt : StAt D h s tn (nI e) sl) (hds : s + 2 ≤ a ∨ a + 36 ≤ s) {sd0 f : Nat} (hsd0 : sd0 < 2147483648) (hf : f < 3) : qMv l D b yX10_begin cX10_begin 3 5 113 [.ref (a), .int (nI (sd0)), .int (nI (f))] h z (fun h' => (∃ rd', TrAt D h' a s (upd dr 0 (nI f)) 0 (lN sd0) 0 0 0 ∧ OlOK D h' (a + 1) s tn sl rd' 0 f ∧ ∀ j, j < 5 → rd' j = -1) ∧ ∀ q, (q < a ∨ a + 36 ≤ q) → h' q = h q) := by
  refine q_v (L := [(0, .ref (a)), (1, .int (nI (sd0))), (2, .int (nI (f)))]) (own := RX10) (by decide) rfl (Nat.le_of_ble_eq_true rfl) rfl ?_
  intro X C ret
  have hO : ∀ q, (q < a ∨ a + 36 ≤ q) → h q = h q := fun _ _ => rfl
  refine g_aload_n C 0 dX10_begin_0 rfl rfl rfl ?_
  refine gf_10_19 C (hTr.1) (v := .ref (a + 1)) rfl dX10_begin_1 rfl ?_
  refine g_iload_n C 2 dX10_begin_4 rfl rfl rfl ?_
  refine g_callVv C (As := [.int (nI (f))]) (q := (RX7, TX7, 8)) (k_X7_startAnew l D b z hAny he hSt (by omega) hf) hw_10_23 (hAny.1.1) rfl (by decide) rfl rfl (Nat.le_of_ble_eq_true rfl) ⟨Nat.zero_le _, Nat.zero_le _⟩ dX10_begin_5 (pc' := 8) rfl ?_
  rintro h1 ⟨⟨rd', hOK, hrd⟩, fr⟩
  have hTr : TrAt D h1 (a) (s) (dr) (da) (sd) (wt) (pd) (sp) := hTr.fr (fun q g => fr q (by omega))
  have hSt : StAt D h1 (s) (tn) (nI (e)) (sl) := ⟨(fr _ (by omega)).trans hSt.1, (fr _ (by omega)).trans hSt.2⟩
  have hO : ∀ q, (q < a ∨ a + 36 ≤ q) → h1 q = h q := fun q hq => (fr q (by omega)).trans (hO q hq)
  refine g_aload_n C 0 dX10_begin_8 rfl rfl rfl ?_
  refine gf_10_9 C (hTr.1) (v := .ref (a + 35)) rfl dX10_begin_9 rfl ?_
  refine g_iconst C (v := 0) dX10_begin_12 (by decide) rfl ?_
  refine g_iload_n C 2 dX10_begin_13 rfl rfl rfl ?_
  refine g_iast' C (hTr.2) (j := 0) rfl (by omega) (by decide) dX10_begin_14 (pc' := 15) rfl (fun h2 e3 o4 => ?_)
  have hTr : TrAt D h2 (a) (s) (upd (dr) (0) (nI (f))) (da) (sd) (wt) (pd) (sp) := ⟨(o4 _ (by omega)).trans hTr.1, e3⟩
  have hSt : StAt D h2 (s) (tn) (nI (e)) (sl) := ⟨(o4 _ (by omega)).trans hSt.1, (o4 _ (by omega)).trans hSt.2⟩
  have hOK : OlOK D h2 (a + 1) s tn sl rd' 0 f := hOK.fr (fun q g1 g2 => o4 q (by omega))
  have hO : ∀ q, (q < a ∨ a + 36 ≤ q) → h2 q = h q := fun q hq => (o4 q (by omega)).trans (hO q hq)
  refine g_aload_n C 0 dX10_begin_15 rfl rfl rfl ?_
  refine g_iconst C (v := 0) dX10_begin_16 (by decide) rfl ?_
  refine pf_10_29 C (hTr.1) (v := .int (0)) rfl rfl (Nat.le_of_ble_eq_true rfl) dX10_begin_17 (pc' := 20) rfl (fun h5 e6 o7 => ?_)
  have hTr : TrAt D h5 (a) (s) (upd (dr) (0) (nI (f))) (0) (sd) (wt) (pd) (sp) := ⟨e6, (o7 _ (by omega)).trans hTr.2⟩
  have hSt : StAt D h5 (s) (tn) (nI (e)) (sl) := ⟨(o7 _ (by omega)).trans hSt.1, (o7 _ (by omega)).trans hSt.2⟩
  have hOK : OlOK D h5 (a + 1) s tn sl rd' 0 f := hOK.fr (fun q g1 g2 => o7 q (by omega))
  have hO : ∀ q, (q < a ∨ a + 36 ≤ q) → h5 q = h q := fun q hq => (o7 q (by omega)).trans (hO q hq)
  refine g_aload_n C 0 dX10_begin_20 rfl rfl rfl ?_
  refine g_iload_n C 1 dX10_begin_21 rfl rfl rfl ?_
  refine g_i2l C dX10_begin_22 rfl ?_
  refine pf_10_33 C (hTr.1) (v := .long ((nI (sd0)).toInt64)) rfl rfl (Nat.le_of_ble_eq_true rfl) dX10_begin_23 (pc' := 26) rfl (fun h8 e9 o10 => ?_)
  have hTr : TrAt D h8 (a) (s) (upd (dr) (0) (nI (f))) (0) ((nI (sd0)).toInt64) (wt) (pd) (sp) := ⟨e9, (o10 _ (by omega)).trans hTr.2⟩
  have hSt : StAt D h8 (s) (tn) (nI (e)) (sl) := ⟨(o10 _ (by omega)).trans hSt.1, (o10 _ (by omega)).trans hSt.2⟩
  have hOK : OlOK D h8 (a + 1) s tn sl rd' 0 f := hOK.fr (fun q g1 g2 => o10 q (by omega))
  have hO : ∀ q, (q < a ∨ a + 36 ≤ q) → h8 q = h q := fun q hq => (o10 q (by omega)).trans (hO q hq)
  refine g_aload_n C 0 dX10_begin_26 rfl rfl rfl ?_
  refine g_iconst C (v := 0) dX10_begin_27 (by decide) rfl ?_
  refine pf_10_37 C (hTr.1) (v := .int (0)) rfl rfl (Nat.le_of_ble_eq_true rfl) dX10_begin_28 (pc' := 31) rfl (fun h11 e12 o13 => ?_)
  have hTr : TrAt D h11 (a) (s) (upd (dr) (0) (nI (f))) (0) ((nI (sd0)).toInt64) (0) (pd) (sp) := ⟨e12, (o13 _ (by omega)).trans hTr.2⟩
  have hSt : StAt D h11 (s) (tn) (nI (e)) (sl) := ⟨(o13 _ (by omega)).trans hSt.1, (o13 _ (by omega)).trans hSt.2⟩
  have hOK : OlOK D h11 (a + 1) s tn sl rd' 0 f := hOK.fr (fun q g1 g2 => o13 q (by omega))
  have hO : ∀ q, (q < a ∨ a + 36 ≤ q) → h11 q = h q := fun q hq => (o13 q (by omega)).trans (hO q hq)
  refine g_aload_n C 0 dX10_begin_31 rfl rfl rfl ?_
  refine g_iconst C (v := 0) dX10_begin_32 (by decide) rfl ?_
  refine pf_10_40 C (hTr.1) (v := .int (0)) rfl rfl (Nat.le_of_ble_eq_true rfl) dX10_begin_33 (pc' := 36) rfl (fun h14 e15 o16 => ?_)
  have hTr : TrAt D h14 (a) (s) (upd (dr) (0) (nI (f))) (0) ((nI (sd0)).toInt64) (0) (0) (sp) := ⟨e15, (o16 _ (by omega)).trans hTr.2⟩
  have hSt : StAt D h14 (s) (tn) (nI (e)) (sl) := ⟨(o16 _ (by omega)).trans hSt.1, (o16 _ (by omega)).trans hSt.2⟩
  have hOK : OlOK D h14 (a + 1) s tn sl rd' 0 f := hOK.fr (fun q g1 g2 => o16 q (by omega))
  have hO : ∀ q, (q < a ∨ a + 36 ≤ q) → h14 q = h q := fun q hq => (o16 q (by omega)).trans (hO q hq)
  refine g_aload_n C 0 dX10_begin_36 rfl rfl rfl ?_
  refine g_iconst C (v := 0) dX10_begin_37 (by decide) rfl ?_
  refine pf_10_43 C (hTr.1) (v := .int (0)) rfl rfl (Nat.le_of_ble_eq_true rfl) dX10_begin_38 (pc' := 41) rfl (fun h17 e18 o19 => ?_)
  have hTr : TrAt D h17 (a) (s) (upd (dr) (0) (nI (f))) (0) ((nI (sd0)).toInt64) (0) (0) (0) := ⟨e18, (o19 _ (by omega)).trans hTr.2⟩
  have hSt : StAt D h17 (s) (tn) (nI (e)) (sl) := ⟨(o19 _ (by omega)).trans hSt.1, (o19 _ (by omega)).trans hSt.2⟩
  have hOK : OlOK D h17 (a + 1) s tn sl rd' 0 f := hOK.fr (fun q g1 g2 => o19 q (by omega))
  have hO : ∀ q, (q < a ∨ a + 36 ≤ q) → h17 q = h q := fun q hq => (o19 q (by omega)).trans (hO q hq)
  exact ret _ _ _ dX10_begin_41 (⟨⟨_, by have g := hTr; rw [lN_ofI (by omega)] at g; exact g, hOK, hrd⟩, hO⟩)
abbrev smT : Type := (Nat → Nat) × Nat × Nat × (Nat → Int32) × Nat × Int32 × Int32 × Int32
def smQ (σ : sg) (t : smT) : (Nat → Nat) × Nat × Nat := exS (gA σ 2) (t.1, t.2.1, t.2.2.1) (gN σ 3)
def smY (σ : sg) (t : smT) : Nat := if drN (lcgN (smQ σ t).2.2) < gN σ 4 then ((smQ σ t).1 (gN σ 3) + 1) % 3 else (smQ σ t).1 (gN σ 3)
def smU (σ : sg) (t : smT) : Nat → Int32 := upd t.2.2.2.1 (gN σ 3) (nI (smY σ t))
def smR (σ : sg) (t : smT) : Nat → Int32 := if allF (F_step (tnS σ) (nI (gN σ 4)) (smU σ t)) t.2.2.2.2.1 ≤ 0 then t.2.2.2.1 else smU σ t
def smC (σ : sg) (t : smT) (i : Nat) : Prop := covQ (gA σ 9 i) (smR σ t) (F_step (tnS σ) (nI (gN σ 4)) (smR σ t)) t.2.2.2.2.1 (gB σ 10 i) (gB σ 11 i)
noncomputable def sm1 (σ : sg) (t : smT) : smT := (fun j => (smQ σ t).1 (if j < 4 then j + 1 else j), (smQ σ t).2.1 - 1, lcgN (smQ σ t).2.2, shR (smR σ t), (smQ σ t).1 1, t.2.2.2.2.2.1 + (if (smQ σ t).1 1 = 1 then 1 else 0), psF (gN σ 8) (smC σ t) (gB σ 10) (gB σ 11) (nI ((smQ σ t).1 1)) t.2.2.2.2.2.2.1 4, t.2.2.2.2.2.2.2 + (if drN (lcgN (smQ σ t).2.2) < gN σ 4 then 1 else 0))
noncomputable def smN (σ : sg) (s : Nat) : Nat → smT
  | 0 => (fun _ => gN σ 6, 0, s, fun _ => -1, gN σ 6, 0, 0, 0)
  | k + 1 => sm1 σ (smN σ s k)
def smA (w : Int32) (t : smT) : Int32 := if w = 0 then t.2.2.2.2.2.1 else if w = 1 then t.2.2.2.2.2.2.1 else if w = 2 then t.2.2.2.2.2.2.2 else (lN t.2.2.1).toInt32
noncomputable def cDays (σ : sg) (d s w : Int32) : Int32 := cIf (inP 1 30 d ∧ ¬ s < 0 ∧ inP 0 3 w) (if 0 < gN σ 3 then smA w (smN σ s.toNatClampNeg d.toNatClampNeg) else -103) (-102)
theorem exS_max (tN : Nat → Nat) (t0 : (Nat → Nat) × Nat × Nat) (k : Nat) : (exS tN t0 k).2.1 = max t0.2.1 k := by
  induction k with
  | zero => simp [exS]
  | succ k ih =>
    simp only [exS]
    split
    · omega
    · show k + 1 = max t0.2.1 (k + 1); omega
theorem exS_agree (tN : Nat → Nat) {d1 d2 : Nat → Nat} {da sd : Nat} (h : ∀ j, j ≤ da → d1 j = d2 j) (k : Nat) : (exS tN (d1, da, sd) k).2 = (exS tN (d2, da, sd) k).2 ∧ ∀ j, j ≤ max da k → (exS tN (d1, da, sd) k).1 j = (exS tN (d2, da, sd) k).1 j := by
  induction k with
  | zero => exact ⟨rfl, fun j hj => h j (by omega)⟩
  | succ k ih =>
    obtain ⟨i1, i2⟩ := ih
    have m1 := exS_max tN (d1, da, sd) k
    simp only at m1
    simp only [exS]
    rw [← i1]
    by_cases g : k + 1 ≤ (exS tN (d1, da, sd) k).2.1
    · rw [if_pos g, if_pos g]
      exact ⟨i1, fun j hj => i2 j (by omega)⟩
    · rw [if_neg g, if_neg g]
      have e : (exS tN (d1, da, sd) k).1 k = (exS tN (d2, da, sd) k).1 k := i2 k (by omega)
      refine ⟨rfl, fun j hj => ?_⟩
      simp only [va_up]
      by_cases gj : j = k + 1
      · rw [if_pos gj, if_pos gj, e]
      · rw [if_neg gj, if_neg gj]; exact i2 j (by omega)
theorem covQ_rd {kd wn : Nat} {tn rd rd2 : Nat → Int32} {sl c t : Int32} (h : ∀ j, 1 ≤ j → j ≤ 4 → rd j = rd2 j) : covQ kd rd (F_step tn sl rd) wn c t = covQ kd rd2 (F_step tn sl rd2) wn c t := by
  rw [F_step_rd h]
  have e : F_rdg rd 1 = F_rdg rd2 1 := h 1 (by decide) (by decide)
  unfold covQ
  rw [e]
theorem shR_ag {rd rd2 r' : Nat → Int32} (h : ∀ j, 1 ≤ j → j ≤ 4 → rd j = rd2 j) (h1 : r' 1 = rd 2) (h2 : r' 2 = rd 3) (h3 : r' 3 = rd 4) (h4 : r' 4 = -1) : ∀ j, 1 ≤ j → j ≤ 4 → r' j = shR rd2 j := by
  intro j g1 g2
  rcases (show j = 1 ∨ j = 2 ∨ j = 3 ∨ j = 4 by omega) with rfl | rfl | rfl | rfl
  · exact h1.trans (h 2 (by decide) (by decide))
  · exact h2.trans (h 3 (by decide) (by decide))
  · exact h3.trans (h 4 (by decide) (by decide))
  · exact h4
theorem upd_ag {rd rd2 : Nat → Int32} (e : Nat) (y : Int32) (h : ∀ j, 1 ≤ j → j ≤ 4 → rd j = rd2 j) : ∀ j, 1 ≤ j → j ≤ 4 → upd rd e y j = upd rd2 e y j := fun j g1 g2 => by
  simp only [upd]; split; rfl; exact h j g1 g2
theorem sm_tell {D : va_G} {h : qH} {a s : Nat} {dr1 : Nat → Int32} {dN1 dNh : Nat → Nat} {da1 sd1 : Nat} {wt pd sp dn : Int32} {rd : Nat → Int32} {σ : sg} {t : smT} (hAg : ∀ j, j ≤ t.2.1 → dNh j = t.1 j) (hRd : ∀ j, 1 ≤ j → j ≤ 4 → rd j = t.2.2.2.1 j) (hex : exS (gA σ 2) (dNh, t.2.1, t.2.2.1) (gN σ 3) = (dN1, da1, sd1)) (hda : t.2.1 < 4) (he : 1 ≤ gN σ 3 ∧ gN σ 3 ≤ 4)
    (hc : (drN (lcgN sd1) < gN σ 4 ∧ TrAt D h a s dr1 (nI da1) (lN (lcgN sd1)) wt pd (sp + 1) ∧ ∃ rd1, OlOK D h (a + 1) s (tnS σ) (nI (gN σ 4)) rd1 dn t.2.2.2.2.1 ∧ ((¬ allF (F_step (tnS σ) (nI (gN σ 4)) (upd rd (gN σ 3) (nI ((dN1 (gN σ 3) + 1) % 3)))) t.2.2.2.2.1 ≤ 0 ∧ rd1 = upd rd (gN σ 3) (nI ((dN1 (gN σ 3) + 1) % 3))) ∨ (allF (F_step (tnS σ) (nI (gN σ 4)) (upd rd (gN σ 3) (nI ((dN1 (gN σ 3) + 1) % 3)))) t.2.2.2.2.1 ≤ 0 ∧ rd1 = rd))) ∨ (¬ drN (lcgN sd1) < gN σ 4 ∧ TrAt D h a s dr1 (nI da1) (lN (lcgN sd1)) wt pd (sp + 0) ∧ ∃ rd1, OlOK D h (a + 1) s (tnS σ) (nI (gN σ 4)) rd1 dn t.2.2.2.2.1 ∧ ((¬ allF (F_step (tnS σ) (nI (gN σ 4)) (upd rd (gN σ 3) (nI (dN1 (gN σ 3))))) t.2.2.2.2.1 ≤ 0 ∧ rd1 = upd rd (gN σ 3) (nI (dN1 (gN σ 3)))) ∨ (allF (F_step (tnS σ) (nI (gN σ 4)) (upd rd (gN σ 3) (nI (dN1 (gN σ 3))))) t.2.2.2.2.1 ≤ 0 ∧ rd1 = rd)))) :
    (smQ σ t).2 = (da1, sd1) ∧ (∀ j, j ≤ da1 → dN1 j = (smQ σ t).1 j) ∧ 1 ≤ da1 ∧ da1 < 5 ∧ TrAt D h a s dr1 (nI da1) (lN (lcgN sd1)) wt pd (sp + (if drN (lcgN (smQ σ t).2.2) < gN σ 4 then 1 else 0)) ∧ ∃ rd1, OlOK D h (a + 1) s (tnS σ) (nI (gN σ 4)) rd1 dn t.2.2.2.2.1 ∧ ∀ j, 1 ≤ j → j ≤ 4 → rd1 j = smR σ t j := by
  have q := exS_agree (gA σ 2) (sd := t.2.2.1) hAg (gN σ 3)
  have m := exS_max (gA σ 2) (dNh, t.2.1, t.2.2.1) (gN σ 3)
  rw [hex] at q m
  simp only at m
  have q2 : (smQ σ t).2 = (da1, sd1) := q.1.symm
  have qd : (smQ σ t).2.2 = sd1 := congrArg Prod.snd q2
  have qe : (smQ σ t).1 (gN σ 3) = dN1 (gN σ 3) := (q.2 _ (by omega)).symm
  refine ⟨q2, fun j hj => q.2 j (by omega), by omega, by omega, ?_⟩
  rw [qd]
  have agU : ∀ y, smY σ t = y → ∀ j, 1 ≤ j → j ≤ 4 → upd rd (gN σ 3) (nI y) j = smU σ t j := fun y hy => by unfold smU; rw [hy]; exact upd_ag _ _ hRd
  have fin : ∀ y rd1, smY σ t = y → ((¬ allF (F_step (tnS σ) (nI (gN σ 4)) (upd rd (gN σ 3) (nI y))) t.2.2.2.2.1 ≤ 0 ∧ rd1 = upd rd (gN σ 3) (nI y)) ∨ (allF (F_step (tnS σ) (nI (gN σ 4)) (upd rd (gN σ 3) (nI y))) t.2.2.2.2.1 ≤ 0 ∧ rd1 = rd)) → ∀ j, 1 ≤ j → j ≤ 4 → rd1 j = smR σ t j := by
    intro y rd1 hy hc j g1 g2
    rw [F_step_rd (agU y hy)] at hc
    unfold smR
    rcases hc with ⟨c, rfl⟩ | ⟨c, rfl⟩
    · rw [if_neg c]; exact agU y hy j g1 g2
    · rw [if_pos c]; exact hRd j g1 g2
  rcases hc with ⟨hs, hTr, rd1, hOK, hc⟩ | ⟨hs, hTr, rd1, hOK, hc⟩
  · rw [if_pos hs]
    exact ⟨hTr, rd1, hOK, fin _ rd1 (by unfold smY; rw [qd, if_pos hs, qe]) hc⟩
  · rw [if_neg hs]
    exact ⟨hTr, rd1, hOK, fin _ rd1 (by unfold smY; rw [qd, if_neg hs, qe]) hc⟩
theorem PeAt.psF {D : va_G} {h : qH} {pp np : Nat} {qa kd : Nat → Nat} {co lo pa : Nat → Int32} (H : PeAt D h pp np qa kd co lo pa) : np ≤ 4 := H.1
set_option maxHeartbeats 4000000 in
set_option maxRecDepth 100000 in
theorem k_X11_days (l : Launch) (D : va_G) (b z : Nat) {h : qH} {x : Nat} {σ : sg} (hC : Cls D h x σ) (d s w : Int32) : qMi l D b yX11_days cX11_days 5 .int 6 137 [.ref (x), .int (d), .int (s), .int (w)] h z (fun r h' => (r = cDays σ d s w ∧ Cls D h' x σ) ∧ ∀ q, x + 118 ≤ q → q < x + 134 → h' q = h q) := by
  refine q_i (L := [(0, .ref (x)), (1, .int (d)), (2, .int (s)), (3, .int (w))]) (own := RX11) (by decide) rfl (Nat.le_of_ble_eq_true rfl) rfl ?_
  intro X C ret
  have hO : ∀ q, (q < x + 43 ∨ x + 79 ≤ q) → h q = h q := fun _ _ => rfl
  obtain ⟨hIn, hGa, hSt, hPg, hOl, hPe, hBk, hTr, hIm⟩ := id hC
  replace hGa : GaAt h x (nI (gN σ 1)) := hGa
  replace hSt : StAt D h (x + 1) (tnS σ) (nI (gN σ 3)) (nI (gN σ 4)) := hSt
  replace hPg : PgAt D h (x + 3) (gB σ 17) (nI (gN σ 16)) := hPg
  replace hBk : BkAt D h (x + 40) (gB σ 14) (gB σ 15) (nI (gN σ 13)) := hBk
  obtain ⟨hI0, hI3, hI03, hI4, hI6, hI8, hI13, hI16, hIt, hIk, hI1, hIim, hI25, hI26, hI08⟩ := id hIn
  have hOl1 := hOl.1.1
  obtain ⟨qa, hPe, hqx, hqj⟩ := hPe
  obtain ⟨dr, dN, da, sd, wt, pd, sp, rd0, dn0, w0, hdr, hTr, hTo⟩ := hTr
  replace hTo : OlAny D h (x + 43 + 1) (x + 1) rd0 dn0 w0 := hTo
  have htn : TnN (tnS σ) (gA σ 2) := fun i hi => ⟨rfl, hIt i hi⟩
  refine g_iload_n C 1 dX11_days_0 rfl rfl rfl ?_
  refine g_iconst C (v := 1) dX11_days_1 (by decide) rfl ?_
  refine g_icmp_lt C dX11_days_2 (tgt := 24) (by decide) (pc' := 5) rfl ?_ ?_
  · intro c2
    refine g_bipush C (v := -102) dX11_days_24 (by decide) rfl ?_
    exact ret _ _ _ _ dX11_days_26 rfl (⟨⟨by unfold cDays; rw [cIf_f (fun g => by obtain ⟨j, rfl, g1, g2⟩ := g.1; have := (nI_ltI (a := j) (b := 1) (by omega) (by decide)).mp c2; omega)], hC⟩, fun _ _ _ => rfl⟩)
  · intro c2
    refine g_iload_n C 1 dX11_days_5 rfl rfl rfl ?_
    refine g_bipush C (v := 30) dX11_days_6 (by decide) rfl ?_
    refine g_icmp_gt C dX11_days_8 (tgt := 24) (by decide) (pc' := 11) rfl ?_ ?_
    · intro c8
      refine g_bipush C (v := -102) dX11_days_24 (by decide) rfl ?_
      exact ret _ _ _ _ dX11_days_26 rfl (⟨⟨by unfold cDays; rw [cIf_f (fun g => by obtain ⟨j, rfl, g1, g2⟩ := g.1; have := (nI_ltI (a := 30) (b := j) (by decide) (by omega)).mp c8; omega)], hC⟩, fun _ _ _ => rfl⟩)
    · intro c8
      refine g_iload_n C 2 dX11_days_11 rfl rfl rfl ?_
      refine g_if_lt C dX11_days_12 (tgt := 24) (by decide) (pc' := 15) rfl ?_ ?_
      · intro c12
        refine g_bipush C (v := -102) dX11_days_24 (by decide) rfl ?_
        exact ret _ _ _ _ dX11_days_26 rfl (⟨⟨by unfold cDays; rw [cIf_f (fun g => g.2.1 c12)], hC⟩, fun _ _ _ => rfl⟩)
      · intro c12
        refine g_iload_n C 3 dX11_days_15 rfl rfl rfl ?_
        refine g_if_lt C dX11_days_16 (tgt := 24) (by decide) (pc' := 19) rfl ?_ ?_
        · intro c16
          refine g_bipush C (v := -102) dX11_days_24 (by decide) rfl ?_
          exact ret _ _ _ _ dX11_days_26 rfl (⟨⟨by unfold cDays; rw [cIf_f (fun g => (inP0_to (hi := 3) (by decide) g.2.2).1 c16)], hC⟩, fun _ _ _ => rfl⟩)
        · intro c16
          refine g_iload_n C 3 dX11_days_19 rfl rfl rfl ?_
          refine g_iconst C (v := 3) dX11_days_20 (by decide) rfl ?_
          refine g_icmp_le C dX11_days_21 (tgt := 27) (by decide) (pc' := 24) rfl ?_ ?_
          · intro c21
            have hcd : inP 1 30 d := by have h2 := c2; obtain ⟨j, hj, rfl⟩ := nI_of (x := d) (fun g => h2 (by have e0 : (0 : Int32).toInt = 0 := (by decide); have e1 : (1 : Int32).toInt = 1 := (by decide); have := Int32.lt_iff_toInt_lt.mp g; exact Int32.lt_iff_toInt_lt.mpr (by omega))); exact ⟨j, rfl, by have := (not_congr (nI_ltI (a := j) (b := 1) hj (by decide))).mp h2; omega, (nI_leI (a := j) (b := 30) hj (by decide)).mp (Int32.not_lt.mp c8)⟩
            have hcw : inP 0 3 w := inP0_of (by decide) c16 c21
            have hcs := c12
            have hcd_ := hcd; obtain ⟨d, rfl, hd1, hd30⟩ := hcd_
            obtain ⟨sd0, hsd0, rfl⟩ := nI_of c12
            refine g_aload_n C 0 dX11_days_27 rfl rfl rfl ?_
            refine gf_11_19 C (hGa) (v := .ref (x + 1)) rfl dX11_days_28 rfl ?_
            refine g_callVi C (As := []) (q := (RX9, TX9, 3)) (k_X9_isRead l D b z hIn.e hSt) hw_11_103 (hSt.1) rfl (by decide) rfl rfl (Nat.le_of_ble_eq_true rfl) ⟨Nat.zero_le _, Nat.zero_le _⟩ dX11_days_31 (pc' := 34) rfl ?_
            rintro r1 h9 ⟨⟨er, hp31⟩ | ⟨er, hp31⟩, e9⟩
            · subst h9; subst er
              refine g_if_ne C dX11_days_34 (tgt := 40) (by decide) (pc' := 37) rfl (fun _ => ?_) (fun c34 => absurd c34 (by decide))
              refine g_aload_n C 0 dX11_days_40 rfl rfl rfl ?_
              refine gf_11_50 C (hGa) (v := .ref (x + 43)) rfl dX11_days_41 rfl ?_
              refine g_iload_n C 2 dX11_days_44 rfl rfl rfl ?_
              refine g_aload_n C 0 dX11_days_45 rfl rfl rfl ?_
              refine gf_11_28 C (hGa) (v := .ref (x + 5)) rfl dX11_days_46 rfl ?_
              refine gf_11_209 C (hOl1.1) (v := .int (nI (gN σ 6))) rfl dX11_days_49 rfl ?_
              refine g_callVv C (As := [.int (nI (sd0)), .int (nI (gN σ 6))]) (q := (RX10, TX10, 8)) (k_X10_begin l D b z hTr hTo hIn.e hSt (by omega) (sd0 := sd0) (f := gN σ 6) (by omega) hI6) hw_11_212 (hTr.1) rfl (by decide) rfl rfl (Nat.le_of_ble_eq_true rfl) ⟨Nat.zero_le _, Nat.zero_le _⟩ dX11_days_52 (pc' := 55) rfl ?_
              rintro h2 ⟨⟨rd', hTr, hOK, hrd⟩, fr⟩
              have hGa : GaAt h2 x (nI (gN σ 1)) := (fr _ (by omega)).trans hGa
              have hSt : StAt D h2 (x + 1) (tnS σ) (nI (gN σ 3)) (nI (gN σ 4)) := ⟨(fr _ (by omega)).trans hSt.1, (fr _ (by omega)).trans hSt.2⟩
              have hOl1 : OlAt D h2 (x + 5) (x + 1) (gB σ 7) (gI σ 5) (nI (gN σ 6)) := ⟨(fr _ (by omega)).trans hOl1.1, (fr _ (by omega)).trans hOl1.2⟩
              have hPe : PeAt D h2 (x + 39) (gN σ 8) qa (gA σ 9) (gB σ 10) (gB σ 11) (gB σ 12) := hPe.fr (fun q g => fr q (by rcases g with g | ⟨i, hi, rfl⟩; omega; have := hqx i hi; omega))
              have hO : ∀ q, (q < x + 43 ∨ x + 79 ≤ q) → h2 q = h q := fun q hq => (fr q (by omega)).trans (hO q hq)
              refine g_iconst C (v := 0) dX11_days_55 (by decide) rfl ?_
              refine g_istore C ([(4, .int (0)), (0, .ref (x)), (1, .int (nI (d))), (2, .int (nI (sd0))), (3, .int (w))]) dX11_days_56 (by decide) rfl rfl ?_
              have loop58 : ∀ (N : Nat) (i : Nat) (h1 : qH) (t : smT) (dr : Nat → Int32) (dN : Nat → Nat) (rd : Nat → Int32) (dn : Int32), d - i < N → (i ≤ d) → (GaAt h1 x (nI (gN σ 1))) → (StAt D h1 (x + 1) (tnS σ) (nI (gN σ 3)) (nI (gN σ 4))) → (PeAt D h1 (x + 39) (gN σ 8) qa (gA σ 9) (gB σ 10) (gB σ 11) (gB σ 12)) → (TrAt D h1 (x + 43) (x + 1) (dr) (nI (t.2.1)) (lN t.2.2.1) (t.2.2.2.2.2.1) (t.2.2.2.2.2.2.1) (t.2.2.2.2.2.2.2)) → (OlOK D h1 (x + 43 + 1) (x + 1) (tnS σ) (nI (gN σ 4)) rd dn t.2.2.2.2.1) → (∀ q, (q < x + 43 ∨ x + 79 ≤ q) → h1 q = h q) → (t = smN σ sd0 i) → (t.2.1 < 4) → (t.2.2.1 < 2147483648) → (t.2.2.2.2.1 < 3) → (DrN dr dN) → (∀ j, j ≤ t.2.1 → dN j = t.1 j) → (∀ j, 1 ≤ j → j ≤ 4 → rd j = t.2.2.2.1 j) → qG X 0 0 z h1 58 [(4, .int (nI (i))), (3, .int (w)), (1, .int (nI (d))), (0, .ref (x))] [] := by
                intro N
                induction N with
                | zero => intro i h1 t dr dN rd dn hm; exact absurd hm (Nat.not_lt_zero _)
                | succ N ih58 =>
                  intro i h1 t dr dN rd dn hm hi hGa hSt hPe hTr hOK hO ht hda hsd hwn hdr hAg hRd
                  refine g_iload C 0 dX11_days_58 rfl rfl ?_
                  refine g_iload_n C 2 dX11_days_60 rfl rfl rfl ?_
                  refine g_icmp_ge C dX11_days_61 (tgt := 88) (by decide) (pc' := 64) rfl ?_ ?_
                  · intro c61
                    replace c61 := (nI_leI (a := d) (b := i) (by omega) (by omega)).mp c61
                    refine g_iload_n C 1 dX11_days_88 rfl rfl rfl ?_
                    by_cases c89_0 : (w) = 0
                    · refine g_tableIn C dX11_days_89 (off := 27) (tgt := 116) (by rw [c89_0]; decide) (by rw [c89_0]; decide) (by rw [c89_0]; decide) (by decide) ?_
                      refine g_aload_n C 3 dX11_days_116 rfl rfl rfl ?_
                      refine gf_11_50 C (hGa) (v := .ref (x + 43)) rfl dX11_days_117 rfl ?_
                      refine gf_11_223 C (hTr.1) (v := .int (t.2.2.2.2.2.1)) rfl dX11_days_120 rfl ?_
                      exact ret _ _ _ _ dX11_days_123 rfl (⟨⟨by unfold cDays; rw [cIf_t ⟨hcd, hcs, hcw⟩, if_pos hp31, nIc (by omega), nIc (by omega), show d = i by omega, ← ht]; unfold smA; rw [if_pos c89_0], Cls_mk (InS_mk (hI0) (hI3) (hI03) (hI4) (hI6) (hI8) (hI13) (hI16) (hIt) (hIk) (hI1) (hIim) (hI25) (hI26) (hI08)) (ClGa.fr hC.2.1 (fun q g1 g2 => hO q (by omega))) (ClSt.fr hC.2.2.1 (fun q g1 g2 => hO q (by omega))) (ClPg.fr hC.2.2.2.1 (fun q g1 g2 => hO q (by omega))) (ClOl.fr hC.2.2.2.2.1 (fun q g1 g2 => hO q (by omega))) (⟨qa, hPe, hqx, hqj⟩) (ClBk.fr hC.2.2.2.2.2.2.1 (fun q g1 g2 => hO q (by omega))) (⟨dr, dN, nI t.2.1, lN t.2.2.1, t.2.2.2.2.2.1, t.2.2.2.2.2.2.1, t.2.2.2.2.2.2.2, rd, dn, nI t.2.2.2.2.1, hdr, hTr, hOK.any⟩) (ClIm.fr hC.2.2.2.2.2.2.2.2 (fun q g1 g2 => hO q (by omega)))⟩, fun q g1 g2 => hO q (by omega)⟩)
                    by_cases c89_1 : (w) = 1
                    · refine g_tableIn C dX11_days_89 (off := 35) (tgt := 124) (by rw [c89_1]; decide) (by rw [c89_1]; decide) (by rw [c89_1]; decide) (by decide) ?_
                      refine g_aload_n C 3 dX11_days_124 rfl rfl rfl ?_
                      refine gf_11_50 C (hGa) (v := .ref (x + 43)) rfl dX11_days_125 rfl ?_
                      refine gf_11_226 C (hTr.1) (v := .int (t.2.2.2.2.2.2.1)) rfl dX11_days_128 rfl ?_
                      exact ret _ _ _ _ dX11_days_131 rfl (⟨⟨by unfold cDays; rw [cIf_t ⟨hcd, hcs, hcw⟩, if_pos hp31, nIc (by omega), nIc (by omega), show d = i by omega, ← ht]; unfold smA; rw [if_neg c89_0, if_pos c89_1], Cls_mk (InS_mk (hI0) (hI3) (hI03) (hI4) (hI6) (hI8) (hI13) (hI16) (hIt) (hIk) (hI1) (hIim) (hI25) (hI26) (hI08)) (ClGa.fr hC.2.1 (fun q g1 g2 => hO q (by omega))) (ClSt.fr hC.2.2.1 (fun q g1 g2 => hO q (by omega))) (ClPg.fr hC.2.2.2.1 (fun q g1 g2 => hO q (by omega))) (ClOl.fr hC.2.2.2.2.1 (fun q g1 g2 => hO q (by omega))) (⟨qa, hPe, hqx, hqj⟩) (ClBk.fr hC.2.2.2.2.2.2.1 (fun q g1 g2 => hO q (by omega))) (⟨dr, dN, nI t.2.1, lN t.2.2.1, t.2.2.2.2.2.1, t.2.2.2.2.2.2.1, t.2.2.2.2.2.2.2, rd, dn, nI t.2.2.2.2.1, hdr, hTr, hOK.any⟩) (ClIm.fr hC.2.2.2.2.2.2.2.2 (fun q g1 g2 => hO q (by omega)))⟩, fun q g1 g2 => hO q (by omega)⟩)
                    by_cases c89_2 : (w) = 2
                    · refine g_tableIn C dX11_days_89 (off := 43) (tgt := 132) (by rw [c89_2]; decide) (by rw [c89_2]; decide) (by rw [c89_2]; decide) (by decide) ?_
                      refine g_aload_n C 3 dX11_days_132 rfl rfl rfl ?_
                      refine gf_11_50 C (hGa) (v := .ref (x + 43)) rfl dX11_days_133 rfl ?_
                      refine gf_11_227 C (hTr.1) (v := .int (t.2.2.2.2.2.2.2)) rfl dX11_days_136 rfl ?_
                      exact ret _ _ _ _ dX11_days_139 rfl (⟨⟨by unfold cDays; rw [cIf_t ⟨hcd, hcs, hcw⟩, if_pos hp31, nIc (by omega), nIc (by omega), show d = i by omega, ← ht]; unfold smA; rw [if_neg c89_0, if_neg c89_1, if_pos c89_2], Cls_mk (InS_mk (hI0) (hI3) (hI03) (hI4) (hI6) (hI8) (hI13) (hI16) (hIt) (hIk) (hI1) (hIim) (hI25) (hI26) (hI08)) (ClGa.fr hC.2.1 (fun q g1 g2 => hO q (by omega))) (ClSt.fr hC.2.2.1 (fun q g1 g2 => hO q (by omega))) (ClPg.fr hC.2.2.2.1 (fun q g1 g2 => hO q (by omega))) (ClOl.fr hC.2.2.2.2.1 (fun q g1 g2 => hO q (by omega))) (⟨qa, hPe, hqx, hqj⟩) (ClBk.fr hC.2.2.2.2.2.2.1 (fun q g1 g2 => hO q (by omega))) (⟨dr, dN, nI t.2.1, lN t.2.2.1, t.2.2.2.2.2.1, t.2.2.2.2.2.2.1, t.2.2.2.2.2.2.2, rd, dn, nI t.2.2.2.2.1, hdr, hTr, hOK.any⟩) (ClIm.fr hC.2.2.2.2.2.2.2.2 (fun q g1 g2 => hO q (by omega)))⟩, fun q g1 g2 => hO q (by omega)⟩)
                    refine g_tableOut C dX11_days_89 (tgt := 140) (swo_0_2 c89_0 c89_1 c89_2) (by decide) ?_
                    refine g_aload_n C 3 dX11_days_140 rfl rfl rfl ?_
                    refine gf_11_50 C (hGa) (v := .ref (x + 43)) rfl dX11_days_141 rfl ?_
                    refine gf_11_230 C (hTr.1) (v := .long (lN t.2.2.1)) rfl dX11_days_144 rfl ?_
                    refine g_l2i C dX11_days_147 rfl ?_
                    exact ret _ _ _ _ dX11_days_148 rfl (⟨⟨by unfold cDays; rw [cIf_t ⟨hcd, hcs, hcw⟩, if_pos hp31, nIc (by omega), nIc (by omega), show d = i by omega, ← ht]; unfold smA; rw [if_neg c89_0, if_neg c89_1, if_neg c89_2], Cls_mk (InS_mk (hI0) (hI3) (hI03) (hI4) (hI6) (hI8) (hI13) (hI16) (hIt) (hIk) (hI1) (hIim) (hI25) (hI26) (hI08)) (ClGa.fr hC.2.1 (fun q g1 g2 => hO q (by omega))) (ClSt.fr hC.2.2.1 (fun q g1 g2 => hO q (by omega))) (ClPg.fr hC.2.2.2.1 (fun q g1 g2 => hO q (by omega))) (ClOl.fr hC.2.2.2.2.1 (fun q g1 g2 => hO q (by omega))) (⟨qa, hPe, hqx, hqj⟩) (ClBk.fr hC.2.2.2.2.2.2.1 (fun q g1 g2 => hO q (by omega))) (⟨dr, dN, nI t.2.1, lN t.2.2.1, t.2.2.2.2.2.1, t.2.2.2.2.2.2.1, t.2.2.2.2.2.2.2, rd, dn, nI t.2.2.2.2.1, hdr, hTr, hOK.any⟩) (ClIm.fr hC.2.2.2.2.2.2.2.2 (fun q g1 g2 => hO q (by omega)))⟩, fun q g1 g2 => hO q (by omega)⟩)
                  · intro c61
                    replace c61 := (not_congr (nI_leI (a := d) (b := i) (by omega) (by omega))).mp c61
                    refine g_aload_n C 3 dX11_days_64 rfl rfl rfl ?_
                    refine gf_11_50 C (hGa) (v := .ref (x + 43)) rfl dX11_days_65 rfl ?_
                    refine g_callVv C (As := []) (q := (RX10, TX10, 8)) (k_X10_tellOne l D b z hdr (by omega) hsd hTr htn (by omega) rfl hI4 hSt hwn hOK (by omega)) hw_11_216 (hTr.1) rfl (by decide) rfl rfl (Nat.le_of_ble_eq_true rfl) ⟨Nat.zero_le _, Nat.zero_le _⟩ dX11_days_68 (pc' := 71) rfl ?_
                    rintro h3 ⟨⟨dr1, dN1, da1, sd1, hex, hdr1, hcase⟩, fr⟩
                    obtain ⟨hq2, hAg1, hd1, hd5, hTr, rd1, hOK, hRd1⟩ := sm_tell hAg hRd hex hda (by omega) hcase
                    have hGa : GaAt h3 x (nI (gN σ 1)) := (fr _ (by omega)).trans hGa
                    have hSt : StAt D h3 (x + 1) (tnS σ) (nI (gN σ 3)) (nI (gN σ 4)) := ⟨(fr _ (by omega)).trans hSt.1, (fr _ (by omega)).trans hSt.2⟩
                    have hPe : PeAt D h3 (x + 39) (gN σ 8) qa (gA σ 9) (gB σ 10) (gB σ 11) (gB σ 12) := hPe.fr (fun q g => fr q (by rcases g with g | ⟨i, hi, rfl⟩; omega; have := hqx i hi; omega))
                    have hO : ∀ q, (q < x + 43 ∨ x + 79 ≤ q) → h3 q = h q := fun q hq => (fr q (by omega)).trans (hO q hq)
                    refine g_aload_n C 3 dX11_days_71 rfl rfl rfl ?_
                    refine gf_11_50 C (hGa) (v := .ref (x + 43)) rfl dX11_days_72 rfl ?_
                    refine g_aload_n C 3 dX11_days_75 rfl rfl rfl ?_
                    refine gf_11_34 C (hGa) (v := .ref (x + 39)) rfl dX11_days_76 rfl ?_
                    refine g_callVv C (As := [.ref (x + 39)]) (q := (RX10, TX10, 8)) (k_X10_passOne l D b z hdr1 ⟨hd1, hd5⟩ hTr hIn.e hSt hwn hOK (by omega) hPe (by omega) (fun i hi => Or.inr (by have := hqx i hi; omega))) hw_11_219 (hTr.1) rfl (by decide) rfl rfl (Nat.le_of_ble_eq_true rfl) ⟨Nat.zero_le _, Nat.zero_le _⟩ dX11_days_79 (pc' := 82) rfl ?_
                    rintro h4 ⟨⟨dr2, rd2, hTr, hdr2, hOK, hr1, hr2, hr3, hr4⟩, fr⟩
                    have qa1 : (smQ σ t).2.1 = da1 := congrArg Prod.fst hq2
                    have qs1 : (smQ σ t).2.2 = sd1 := congrArg Prod.snd hq2
                    have qn1 : dN1 1 = (smQ σ t).1 1 := hAg1 1 hd1
                    rw [qn1] at hTr hOK
                    rw [show (fun i => covQ (gA σ 9 i) rd1 (F_step (tnS σ) (nI (gN σ 4)) rd1) t.2.2.2.2.1 (gB σ 10 i) (gB σ 11 i)) = smC σ t from funext fun i => covQ_rd hRd1, ← qs1, ← qa1] at hTr
                    have hdr3 : DrN dr2 (fun j => dN1 (if j < 4 then j + 1 else j)) := fun j hj => by rw [hdr2 j hj]; exact hdr1 _ (by split <;> omega)
                    have hGa : GaAt h4 x (nI (gN σ 1)) := (fr _ (by omega)).trans hGa
                    have hSt : StAt D h4 (x + 1) (tnS σ) (nI (gN σ 3)) (nI (gN σ 4)) := ⟨(fr _ (by omega)).trans hSt.1, (fr _ (by omega)).trans hSt.2⟩
                    have hPe : PeAt D h4 (x + 39) (gN σ 8) qa (gA σ 9) (gB σ 10) (gB σ 11) (gB σ 12) := hPe.fr (fun q g => fr q (by rcases g with g | ⟨i, hi, rfl⟩; omega; have := hqx i hi; omega))
                    have hO : ∀ q, (q < x + 43 ∨ x + 79 ≤ q) → h4 q = h q := fun q hq => (fr q (by omega)).trans (hO q hq)
                    refine g_iinc C (v := nI (i + 1)) 0 ([(4, .int (nI (i + 1))), (3, .int (w)), (1, .int (nI (d))), (0, .ref (x))]) dX11_days_82 rfl (nI_1 _) (by decide) rfl rfl ?_
                    refine g_goto C dX11_days_85 (tgt := 58) (by decide) ?_
                    exact ih58 (i + 1) (h4) (sm1 σ t) (dr2) (fun j => dN1 (if j < 4 then j + 1 else j)) (rd2) (dn + 1) (by omega) (by omega) (hGa) (hSt) (hPe) (hTr) (hOK) (hO) (by rw [ht]; rfl) (by show (smQ σ t).2.1 - 1 < 4; omega) (lcgN_lt _) (by show (smQ σ t).1 1 < 3; rw [← qn1]; exact (hdr1 1 (by decide)).2) (hdr3) (fun j hj => by have hj2 : j ≤ (smQ σ t).2.1 - 1 := hj; exact hAg1 _ (by split <;> omega)) (shR_ag hRd1 hr1 hr2 hr3 hr4)
              refine q_lsub [0, 4, 2, 1] (L' := [(4, .int (0)), (3, .int (w)), (1, .int (nI (d))), (0, .ref (x))]) rfl ?_
              exact loop58 _ (0) (h2) (smN σ sd0 0) (upd dr 0 (nI (gN σ 6))) (va_up dN 0 (gN σ 6)) (rd') (0) (Nat.lt_succ_self _) (by omega) (hGa) (hSt) (hPe) (hTr) (hOK) (hO) (rfl) (by show 0 < 4; decide) (hsd0) (hI6) (hdr.up hI6) (fun j hj => by have : j = 0 := Nat.le_zero.mp hj; subst this; exact if_pos rfl) (fun j g1 g2 => hrd j (by omega))
            · subst h9; subst er
              refine g_if_ne C dX11_days_34 (tgt := 40) (by decide) (pc' := 37) rfl (fun c34 => absurd (by decide) c34) (fun _ => ?_)
              refine g_bipush C (v := -103) dX11_days_37 (by decide) rfl ?_
              exact ret _ _ _ _ dX11_days_39 rfl (⟨⟨by unfold cDays; rw [cIf_t ⟨hcd, hcs, hcw⟩, if_neg hp31], hC⟩, fun _ _ _ => rfl⟩)
          · intro c21
            refine g_bipush C (v := -102) dX11_days_24 (by decide) rfl ?_
            exact ret _ _ _ _ dX11_days_26 rfl (⟨⟨by unfold cDays; rw [cIf_f (fun g => c21 (inP0_to (hi := 3) (by decide) g.2.2).2)], hC⟩, fun _ _ _ => rfl⟩)

/-! the reference model: days by a seed, all of them -/
def trS (σ : sg) (dn : Int32) (t : smT) : sg := uB (uN (uI σ 5 dn) 6 t.2.2.2.2.1) 7 t.2.2.2.1
def mmG (σ : sg) (t : smT) : sg := uB (uN σ 6 t.2.2.2.2.1) 7 (smU σ t)
noncomputable def mm1 (σ : sg) (t : smT) : smT := (fun j => (smQ σ t).1 (if j < 4 then j + 1 else j), (smQ σ t).2.1 - 1, lcgN (smQ σ t).2.2, shR (smU σ t), (smQ σ t).1 1, t.2.2.2.2.2.1 + (if (smQ σ t).1 1 = 1 then 1 else 0), t.2.2.2.2.2.2.1 + saM (mmG σ t) ((smQ σ t).1 1) (gN σ 8), t.2.2.2.2.2.2.2 + (if drN (lcgN (smQ σ t).2.2) < gN σ 4 then 1 else 0))
noncomputable def mmN (σ : sg) (s : Nat) : Nat → smT
  | 0 => (fun _ => gN σ 6, 0, s, fun _ => -1, gN σ 6, 0, 0, 0)
  | k + 1 => mm1 σ (mmN σ s k)
noncomputable def mDays (σ : sg) (d s w : Int32) : Int32 := cIf (inP 1 30 d ∧ ¬ s < 0 ∧ inP 0 3 w) (if gN σ 0 = 0 then -103 else smA w (mmN σ s.toNatClampNeg d.toNatClampNeg)) (-102)
theorem saM_of {σ τ : sg} (h : stS σ = stS τ) (h6 : gN σ 6 = gN τ 6) (hk : kdS σ = kdS τ) (h10 : gB σ 10 = gB τ 10) (h11 : gB σ 11 = gB τ 11) (h7 : gB σ 7 1 = gB τ 7 1) (w k : Nat) : saM σ w k = saM τ w k := by
  induction k with
  | zero => rfl
  | succ k ih => simp only [saM, ih]; unfold mdV; rw [mcS_of h h6 (congrFun hk k) (congrFun h10 k) (congrFun h11 k) h7, h10, h11]
noncomputable def mmT (σ : sg) (dn : Int32) (t : smT) (dN : Nat → Nat) (sd : Nat) : smT := (fun j => dN (if j < 4 then j + 1 else j), gN σ 3 - 1, lcgN sd, shR (upd t.2.2.2.1 (gN σ 3) (nI (gsY (trS σ dn t) dN sd))), dN 1, t.2.2.2.2.2.1 + (if dN 1 = 1 then 1 else 0), t.2.2.2.2.2.2.1 + saM (gsS (trS σ dn t) dN sd) (dN 1) (gN σ 8), t.2.2.2.2.2.2.2 + (if drN (lcgN sd) < gN σ 4 then 1 else 0))
theorem mm1_eq {σ : sg} {dn : Int32} {t : smT} {dN : Nat → Nat} {sd : Nat} (h : exS (gA σ 2) (t.1, t.2.1, t.2.2.1) (gN σ 3) = (dN, gN σ 3, sd)) : mm1 σ t = mmT σ dn t dN sd := by
  have hq : smQ σ t = (dN, gN σ 3, sd) := h
  have hy : smY σ t = gsY (trS σ dn t) dN sd := by unfold smY; rw [hq]; rfl
  have hu : smU σ t = upd t.2.2.2.1 (gN σ 3) (nI (gsY (trS σ dn t) dN sd)) := by unfold smU; rw [hy]
  have hs : saM (mmG σ t) (dN 1) (gN σ 8) = saM (gsS (trS σ dn t) dN sd) (dN 1) (gN σ 8) := by
    unfold mmG
    rw [hu]
    apply saM_of <;> rfl
  unfold mm1 mmT
  rw [hq, hu]
  show (_, _, _, _, _, _, t.2.2.2.2.2.2.1 + saM (mmG σ t) (dN 1) (gN σ 8), _) = _
  rw [hs]
set_option maxHeartbeats 4000000 in
set_option maxRecDepth 100000 in
theorem k_X12_daysNow (l : Launch) (D : va_G) (b z : Nat) {h : qH} {m : Nat} {σ : sg} {s18 s35 : Int64} {s19 s20 s23 s24 : Int32} {f21 f22 : Nat → Int32} (hn0 : gN σ 0 ≤ 1) (hn6 : gN σ 6 < 3) (hn3 : gN σ 3 ≤ 4) (hIt : ∀ i, i < 9 → gA σ 2 i ≤ 10) (hn4 : gN σ 4 < 10) (hn8 : gN σ 8 ≤ 4) (hn03 : gN σ 0 = 1 ↔ 1 ≤ gN σ 3) (hn31 : 1 ≤ gN σ 3) {d s : Nat} (hd : d ≤ 30) (hs : s < 2147483648) (w : Int32) (hM : MdO h m (σ) (s18) (s19) (s20) (s23) (s24) (s35)) (hR : MdR D h m (σ) (f21) (f22)) : qMi l D b yX12_daysNow cX12_daysNow 7 .int 6 145 [.ref (m), .int (nI (d)), .int (nI (s)), .int (w)] h z (fun r0 h' => r0 = smA w (mmN σ s d) ∧ MdlAt D h' m σ ∧ ∀ q, (q < m ∨ m + 16 ≤ q) → h' q = h q) := by
  refine q_i (L := [(0, .ref (m)), (1, .int (nI (d))), (2, .int (nI (s))), (3, .int (w))]) (own := RX12) (by decide) rfl (Nat.le_of_ble_eq_true rfl) rfl ?_
  intro X C ret
  have hO : ∀ q, (q < m ∨ m + 16 ≤ q) → h q = h q := fun _ _ => rfl
  refine g_aload_n C 0 dX12_daysNow_0 rfl rfl rfl ?_
  refine g_aload_n C 0 dX12_daysNow_1 rfl rfl rfl ?_
  refine gf_12_89 C (hM) (v := .int (gI σ 5)) rfl dX12_daysNow_2 rfl ?_
  refine pf_12_199 C (hM) (v := .int (gI σ 5)) rfl rfl (Nat.le_of_ble_eq_true rfl) dX12_daysNow_5 (pc' := 8) rfl (fun h1 e2 o3 => ?_)
  have hM : MdO h1 m (σ) (s18) (gI σ 5) (s20) (s23) (s24) (s35) := e2
  have hR : MdR D h1 m (σ) (f21) (f22) := hR.fr (fun q g1 g2 => o3 q (by omega))
  have hO : ∀ q, (q < m ∨ m + 16 ≤ q) → h1 q = h q := fun q hq => (o3 q (by omega)).trans (hO q hq)
  refine g_aload_n C 0 dX12_daysNow_8 rfl rfl rfl ?_
  refine g_aload_n C 0 dX12_daysNow_9 rfl rfl rfl ?_
  refine gf_12_92 C (hM) (v := .int (nI (gN σ 6))) rfl dX12_daysNow_10 rfl ?_
  refine pf_12_202 C (hM) (v := .int (nI (gN σ 6))) rfl rfl (Nat.le_of_ble_eq_true rfl) dX12_daysNow_13 (pc' := 16) rfl (fun h4 e5 o6 => ?_)
  have hM : MdO h4 m (σ) (s18) (gI σ 5) (nI (gN σ 6)) (s23) (s24) (s35) := e5
  have hR : MdR D h4 m (σ) (f21) (f22) := hR.fr (fun q g1 g2 => o6 q (by omega))
  have hO : ∀ q, (q < m ∨ m + 16 ≤ q) → h4 q = h q := fun q hq => (o6 q (by omega)).trans (hO q hq)
  refine g_iconst C (v := 0) dX12_daysNow_16 (by decide) rfl ?_
  refine g_istore C ([(4, .int (0)), (0, .ref (m)), (1, .int (nI (d))), (2, .int (nI (s))), (3, .int (w))]) dX12_daysNow_17 (by decide) rfl rfl ?_
  refine g_iload C 0 dX12_daysNow_19 rfl rfl ?_
  refine g_iconst C (v := 4) dX12_daysNow_21 (by decide) rfl ?_
  refine g_icmp_gt C dX12_daysNow_22 (tgt := 53) (by decide) (pc' := 25) rfl (fun c22 => absurd c22 (by decide)) (fun _ => ?_)
  refine g_aload_n C 1 dX12_daysNow_25 rfl rfl rfl ?_
  refine gf_12_38 C (hM) (v := .ref (m + 10)) rfl dX12_daysNow_26 rfl ?_
  refine g_iload C 0 dX12_daysNow_29 rfl rfl ?_
  refine g_aload_n C 1 dX12_daysNow_31 rfl rfl rfl ?_
  refine gf_12_13 C (hM) (v := .ref (m + 2)) rfl dX12_daysNow_32 rfl ?_
  refine g_iload C 0 dX12_daysNow_35 rfl rfl ?_
  refine g_iald' C (hR.2.1) (j := 0) rfl (by omega) (by decide) dX12_daysNow_37 rfl ?_
  refine g_iast' C (hR.2.2.2.2.2.2.2.2.2.1) (j := 0) rfl (by omega) (by decide) dX12_daysNow_38 (pc' := 39) rfl (fun h7 e8 o9 => ?_)
  have hM : MdO h7 m (σ) (s18) (gI σ 5) (nI (gN σ 6)) (s23) (s24) (s35) := (o9 _ (by omega)).trans hM
  have hR : MdR D h7 m (σ) (upd (f21) (0) (gB σ 7 (0))) (f22) := ⟨(o9 _ (by omega)).trans hR.1, (o9 _ (by omega)).trans hR.2.1, (o9 _ (by omega)).trans hR.2.2.1, (o9 _ (by omega)).trans hR.2.2.2.1, (o9 _ (by omega)).trans hR.2.2.2.2.1, (o9 _ (by omega)).trans hR.2.2.2.2.2.1, (o9 _ (by omega)).trans hR.2.2.2.2.2.2.1, (o9 _ (by omega)).trans hR.2.2.2.2.2.2.2.1, (o9 _ (by omega)).trans hR.2.2.2.2.2.2.2.2.1, e8, (o9 _ (by omega)).trans hR.2.2.2.2.2.2.2.2.2.2.1, (o9 _ (by omega)).trans hR.2.2.2.2.2.2.2.2.2.2.2.1, (o9 _ (by omega)).trans hR.2.2.2.2.2.2.2.2.2.2.2.2.1, (o9 _ (by omega)).trans hR.2.2.2.2.2.2.2.2.2.2.2.2.2.1, (o9 _ (by omega)).trans hR.2.2.2.2.2.2.2.2.2.2.2.2.2.2⟩
  have hO : ∀ q, (q < m ∨ m + 16 ≤ q) → h7 q = h q := fun q hq => (o9 q (by omega)).trans (hO q hq)
  refine g_aload_n C 1 dX12_daysNow_39 rfl rfl rfl ?_
  refine gf_12_13 C (hM) (v := .ref (m + 2)) rfl dX12_daysNow_40 rfl ?_
  refine g_iload C 0 dX12_daysNow_43 rfl rfl ?_
  refine g_iconst C (v := -1) dX12_daysNow_45 (by decide) rfl ?_
  refine g_iast' C (hR.2.1) (j := 0) rfl (by omega) (by decide) dX12_daysNow_46 (pc' := 47) rfl (fun h10 e11 o12 => ?_)
  have hM : MdO h10 m (uB (σ) 7 (upd (gB σ 7) (0) ((-1)))) (s18) (gI σ 5) (nI (gN σ 6)) (s23) (s24) (s35) := (o12 _ (by omega)).trans hM
  have hR : MdR D h10 m (uB (σ) 7 (upd (gB σ 7) (0) ((-1)))) (upd (f21) (0) (gB σ 7 (0))) (f22) := ⟨(o12 _ (by omega)).trans hR.1, e11, (o12 _ (by omega)).trans hR.2.2.1, (o12 _ (by omega)).trans hR.2.2.2.1, (o12 _ (by omega)).trans hR.2.2.2.2.1, (o12 _ (by omega)).trans hR.2.2.2.2.2.1, (o12 _ (by omega)).trans hR.2.2.2.2.2.2.1, (o12 _ (by omega)).trans hR.2.2.2.2.2.2.2.1, (o12 _ (by omega)).trans hR.2.2.2.2.2.2.2.2.1, (o12 _ (by omega)).trans hR.2.2.2.2.2.2.2.2.2.1, (o12 _ (by omega)).trans hR.2.2.2.2.2.2.2.2.2.2.1, (o12 _ (by omega)).trans hR.2.2.2.2.2.2.2.2.2.2.2.1, (o12 _ (by omega)).trans hR.2.2.2.2.2.2.2.2.2.2.2.2.1, (o12 _ (by omega)).trans hR.2.2.2.2.2.2.2.2.2.2.2.2.2.1, (o12 _ (by omega)).trans hR.2.2.2.2.2.2.2.2.2.2.2.2.2.2⟩
  have hO : ∀ q, (q < m ∨ m + 16 ≤ q) → h10 q = h q := fun q hq => (o12 q (by omega)).trans (hO q hq)
  refine g_iinc C (v := 1) 0 ([(4, .int (1)), (0, .ref (m)), (1, .int (nI (d))), (2, .int (nI (s))), (3, .int (w))]) dX12_daysNow_47 rfl (by decide) (by decide) rfl rfl ?_
  refine g_goto C dX12_daysNow_50 (tgt := 19) (by decide) ?_
  refine g_iload C 0 dX12_daysNow_19 rfl rfl ?_
  refine g_iconst C (v := 4) dX12_daysNow_21 (by decide) rfl ?_
  refine g_icmp_gt C dX12_daysNow_22 (tgt := 53) (by decide) (pc' := 25) rfl (fun c22 => absurd c22 (by decide)) (fun _ => ?_)
  refine g_aload_n C 1 dX12_daysNow_25 rfl rfl rfl ?_
  refine gf_12_38 C (hM) (v := .ref (m + 10)) rfl dX12_daysNow_26 rfl ?_
  refine g_iload C 0 dX12_daysNow_29 rfl rfl ?_
  refine g_aload_n C 1 dX12_daysNow_31 rfl rfl rfl ?_
  refine gf_12_13 C (hM) (v := .ref (m + 2)) rfl dX12_daysNow_32 rfl ?_
  refine g_iload C 0 dX12_daysNow_35 rfl rfl ?_
  refine g_iald' C (hR.2.1) (j := 1) rfl (by omega) (by decide) dX12_daysNow_37 rfl ?_
  refine g_iast' C (hR.2.2.2.2.2.2.2.2.2.1) (j := 1) rfl (by omega) (by decide) dX12_daysNow_38 (pc' := 39) rfl (fun h13 e14 o15 => ?_)
  have hM : MdO h13 m (uB (σ) 7 (upd (gB σ 7) (0) ((-1)))) (s18) (gI σ 5) (nI (gN σ 6)) (s23) (s24) (s35) := (o15 _ (by omega)).trans hM
  have hR : MdR D h13 m (uB (σ) 7 (upd (gB σ 7) (0) ((-1)))) (upd (upd (f21) (0) (gB σ 7 (0))) (1) (upd (gB σ 7) (0) ((-1)) (1))) (f22) := ⟨(o15 _ (by omega)).trans hR.1, (o15 _ (by omega)).trans hR.2.1, (o15 _ (by omega)).trans hR.2.2.1, (o15 _ (by omega)).trans hR.2.2.2.1, (o15 _ (by omega)).trans hR.2.2.2.2.1, (o15 _ (by omega)).trans hR.2.2.2.2.2.1, (o15 _ (by omega)).trans hR.2.2.2.2.2.2.1, (o15 _ (by omega)).trans hR.2.2.2.2.2.2.2.1, (o15 _ (by omega)).trans hR.2.2.2.2.2.2.2.2.1, e14, (o15 _ (by omega)).trans hR.2.2.2.2.2.2.2.2.2.2.1, (o15 _ (by omega)).trans hR.2.2.2.2.2.2.2.2.2.2.2.1, (o15 _ (by omega)).trans hR.2.2.2.2.2.2.2.2.2.2.2.2.1, (o15 _ (by omega)).trans hR.2.2.2.2.2.2.2.2.2.2.2.2.2.1, (o15 _ (by omega)).trans hR.2.2.2.2.2.2.2.2.2.2.2.2.2.2⟩
  have hO : ∀ q, (q < m ∨ m + 16 ≤ q) → h13 q = h q := fun q hq => (o15 q (by omega)).trans (hO q hq)
  refine g_aload_n C 1 dX12_daysNow_39 rfl rfl rfl ?_
  refine gf_12_13 C (hM) (v := .ref (m + 2)) rfl dX12_daysNow_40 rfl ?_
  refine g_iload C 0 dX12_daysNow_43 rfl rfl ?_
  refine g_iconst C (v := -1) dX12_daysNow_45 (by decide) rfl ?_
  refine g_iast' C (hR.2.1) (j := 1) rfl (by omega) (by decide) dX12_daysNow_46 (pc' := 47) rfl (fun h16 e17 o18 => ?_)
  have hM : MdO h16 m (uB (uB (σ) 7 (upd (gB σ 7) (0) ((-1)))) 7 (upd (upd (gB σ 7) (0) ((-1))) (1) ((-1)))) (s18) (gI σ 5) (nI (gN σ 6)) (s23) (s24) (s35) := (o18 _ (by omega)).trans hM
  have hR : MdR D h16 m (uB (uB (σ) 7 (upd (gB σ 7) (0) ((-1)))) 7 (upd (upd (gB σ 7) (0) ((-1))) (1) ((-1)))) (upd (upd (f21) (0) (gB σ 7 (0))) (1) (upd (gB σ 7) (0) ((-1)) (1))) (f22) := ⟨(o18 _ (by omega)).trans hR.1, e17, (o18 _ (by omega)).trans hR.2.2.1, (o18 _ (by omega)).trans hR.2.2.2.1, (o18 _ (by omega)).trans hR.2.2.2.2.1, (o18 _ (by omega)).trans hR.2.2.2.2.2.1, (o18 _ (by omega)).trans hR.2.2.2.2.2.2.1, (o18 _ (by omega)).trans hR.2.2.2.2.2.2.2.1, (o18 _ (by omega)).trans hR.2.2.2.2.2.2.2.2.1, (o18 _ (by omega)).trans hR.2.2.2.2.2.2.2.2.2.1, (o18 _ (by omega)).trans hR.2.2.2.2.2.2.2.2.2.2.1, (o18 _ (by omega)).trans hR.2.2.2.2.2.2.2.2.2.2.2.1, (o18 _ (by omega)).trans hR.2.2.2.2.2.2.2.2.2.2.2.2.1, (o18 _ (by omega)).trans hR.2.2.2.2.2.2.2.2.2.2.2.2.2.1, (o18 _ (by omega)).trans hR.2.2.2.2.2.2.2.2.2.2.2.2.2.2⟩
  have hO : ∀ q, (q < m ∨ m + 16 ≤ q) → h16 q = h q := fun q hq => (o18 q (by omega)).trans (hO q hq)
  refine g_iinc C (v := 2) 0 ([(4, .int (2)), (0, .ref (m)), (1, .int (nI (d))), (2, .int (nI (s))), (3, .int (w))]) dX12_daysNow_47 rfl (by decide) (by decide) rfl rfl ?_
  refine g_goto C dX12_daysNow_50 (tgt := 19) (by decide) ?_
  refine g_iload C 0 dX12_daysNow_19 rfl rfl ?_
  refine g_iconst C (v := 4) dX12_daysNow_21 (by decide) rfl ?_
  refine g_icmp_gt C dX12_daysNow_22 (tgt := 53) (by decide) (pc' := 25) rfl (fun c22 => absurd c22 (by decide)) (fun _ => ?_)
  refine g_aload_n C 1 dX12_daysNow_25 rfl rfl rfl ?_
  refine gf_12_38 C (hM) (v := .ref (m + 10)) rfl dX12_daysNow_26 rfl ?_
  refine g_iload C 0 dX12_daysNow_29 rfl rfl ?_
  refine g_aload_n C 1 dX12_daysNow_31 rfl rfl rfl ?_
  refine gf_12_13 C (hM) (v := .ref (m + 2)) rfl dX12_daysNow_32 rfl ?_
  refine g_iload C 0 dX12_daysNow_35 rfl rfl ?_
  refine g_iald' C (hR.2.1) (j := 2) rfl (by omega) (by decide) dX12_daysNow_37 rfl ?_
  refine g_iast' C (hR.2.2.2.2.2.2.2.2.2.1) (j := 2) rfl (by omega) (by decide) dX12_daysNow_38 (pc' := 39) rfl (fun h19 e20 o21 => ?_)
  have hM : MdO h19 m (uB (uB (σ) 7 (upd (gB σ 7) (0) ((-1)))) 7 (upd (upd (gB σ 7) (0) ((-1))) (1) ((-1)))) (s18) (gI σ 5) (nI (gN σ 6)) (s23) (s24) (s35) := (o21 _ (by omega)).trans hM
  have hR : MdR D h19 m (uB (uB (σ) 7 (upd (gB σ 7) (0) ((-1)))) 7 (upd (upd (gB σ 7) (0) ((-1))) (1) ((-1)))) (upd (upd (upd (f21) (0) (gB σ 7 (0))) (1) (upd (gB σ 7) (0) ((-1)) (1))) (2) (upd (upd (gB σ 7) (0) ((-1))) (1) ((-1)) (2))) (f22) := ⟨(o21 _ (by omega)).trans hR.1, (o21 _ (by omega)).trans hR.2.1, (o21 _ (by omega)).trans hR.2.2.1, (o21 _ (by omega)).trans hR.2.2.2.1, (o21 _ (by omega)).trans hR.2.2.2.2.1, (o21 _ (by omega)).trans hR.2.2.2.2.2.1, (o21 _ (by omega)).trans hR.2.2.2.2.2.2.1, (o21 _ (by omega)).trans hR.2.2.2.2.2.2.2.1, (o21 _ (by omega)).trans hR.2.2.2.2.2.2.2.2.1, e20, (o21 _ (by omega)).trans hR.2.2.2.2.2.2.2.2.2.2.1, (o21 _ (by omega)).trans hR.2.2.2.2.2.2.2.2.2.2.2.1, (o21 _ (by omega)).trans hR.2.2.2.2.2.2.2.2.2.2.2.2.1, (o21 _ (by omega)).trans hR.2.2.2.2.2.2.2.2.2.2.2.2.2.1, (o21 _ (by omega)).trans hR.2.2.2.2.2.2.2.2.2.2.2.2.2.2⟩
  have hO : ∀ q, (q < m ∨ m + 16 ≤ q) → h19 q = h q := fun q hq => (o21 q (by omega)).trans (hO q hq)
  refine g_aload_n C 1 dX12_daysNow_39 rfl rfl rfl ?_
  refine gf_12_13 C (hM) (v := .ref (m + 2)) rfl dX12_daysNow_40 rfl ?_
  refine g_iload C 0 dX12_daysNow_43 rfl rfl ?_
  refine g_iconst C (v := -1) dX12_daysNow_45 (by decide) rfl ?_
  refine g_iast' C (hR.2.1) (j := 2) rfl (by omega) (by decide) dX12_daysNow_46 (pc' := 47) rfl (fun h22 e23 o24 => ?_)
  have hM : MdO h22 m (uB (uB (uB (σ) 7 (upd (gB σ 7) (0) ((-1)))) 7 (upd (upd (gB σ 7) (0) ((-1))) (1) ((-1)))) 7 (upd (upd (upd (gB σ 7) (0) ((-1))) (1) ((-1))) (2) ((-1)))) (s18) (gI σ 5) (nI (gN σ 6)) (s23) (s24) (s35) := (o24 _ (by omega)).trans hM
  have hR : MdR D h22 m (uB (uB (uB (σ) 7 (upd (gB σ 7) (0) ((-1)))) 7 (upd (upd (gB σ 7) (0) ((-1))) (1) ((-1)))) 7 (upd (upd (upd (gB σ 7) (0) ((-1))) (1) ((-1))) (2) ((-1)))) (upd (upd (upd (f21) (0) (gB σ 7 (0))) (1) (upd (gB σ 7) (0) ((-1)) (1))) (2) (upd (upd (gB σ 7) (0) ((-1))) (1) ((-1)) (2))) (f22) := ⟨(o24 _ (by omega)).trans hR.1, e23, (o24 _ (by omega)).trans hR.2.2.1, (o24 _ (by omega)).trans hR.2.2.2.1, (o24 _ (by omega)).trans hR.2.2.2.2.1, (o24 _ (by omega)).trans hR.2.2.2.2.2.1, (o24 _ (by omega)).trans hR.2.2.2.2.2.2.1, (o24 _ (by omega)).trans hR.2.2.2.2.2.2.2.1, (o24 _ (by omega)).trans hR.2.2.2.2.2.2.2.2.1, (o24 _ (by omega)).trans hR.2.2.2.2.2.2.2.2.2.1, (o24 _ (by omega)).trans hR.2.2.2.2.2.2.2.2.2.2.1, (o24 _ (by omega)).trans hR.2.2.2.2.2.2.2.2.2.2.2.1, (o24 _ (by omega)).trans hR.2.2.2.2.2.2.2.2.2.2.2.2.1, (o24 _ (by omega)).trans hR.2.2.2.2.2.2.2.2.2.2.2.2.2.1, (o24 _ (by omega)).trans hR.2.2.2.2.2.2.2.2.2.2.2.2.2.2⟩
  have hO : ∀ q, (q < m ∨ m + 16 ≤ q) → h22 q = h q := fun q hq => (o24 q (by omega)).trans (hO q hq)
  refine g_iinc C (v := 3) 0 ([(4, .int (3)), (0, .ref (m)), (1, .int (nI (d))), (2, .int (nI (s))), (3, .int (w))]) dX12_daysNow_47 rfl (by decide) (by decide) rfl rfl ?_
  refine g_goto C dX12_daysNow_50 (tgt := 19) (by decide) ?_
  refine g_iload C 0 dX12_daysNow_19 rfl rfl ?_
  refine g_iconst C (v := 4) dX12_daysNow_21 (by decide) rfl ?_
  refine g_icmp_gt C dX12_daysNow_22 (tgt := 53) (by decide) (pc' := 25) rfl (fun c22 => absurd c22 (by decide)) (fun _ => ?_)
  refine g_aload_n C 1 dX12_daysNow_25 rfl rfl rfl ?_
  refine gf_12_38 C (hM) (v := .ref (m + 10)) rfl dX12_daysNow_26 rfl ?_
  refine g_iload C 0 dX12_daysNow_29 rfl rfl ?_
  refine g_aload_n C 1 dX12_daysNow_31 rfl rfl rfl ?_
  refine gf_12_13 C (hM) (v := .ref (m + 2)) rfl dX12_daysNow_32 rfl ?_
  refine g_iload C 0 dX12_daysNow_35 rfl rfl ?_
  refine g_iald' C (hR.2.1) (j := 3) rfl (by omega) (by decide) dX12_daysNow_37 rfl ?_
  refine g_iast' C (hR.2.2.2.2.2.2.2.2.2.1) (j := 3) rfl (by omega) (by decide) dX12_daysNow_38 (pc' := 39) rfl (fun h25 e26 o27 => ?_)
  have hM : MdO h25 m (uB (uB (uB (σ) 7 (upd (gB σ 7) (0) ((-1)))) 7 (upd (upd (gB σ 7) (0) ((-1))) (1) ((-1)))) 7 (upd (upd (upd (gB σ 7) (0) ((-1))) (1) ((-1))) (2) ((-1)))) (s18) (gI σ 5) (nI (gN σ 6)) (s23) (s24) (s35) := (o27 _ (by omega)).trans hM
  have hR : MdR D h25 m (uB (uB (uB (σ) 7 (upd (gB σ 7) (0) ((-1)))) 7 (upd (upd (gB σ 7) (0) ((-1))) (1) ((-1)))) 7 (upd (upd (upd (gB σ 7) (0) ((-1))) (1) ((-1))) (2) ((-1)))) (upd (upd (upd (upd (f21) (0) (gB σ 7 (0))) (1) (upd (gB σ 7) (0) ((-1)) (1))) (2) (upd (upd (gB σ 7) (0) ((-1))) (1) ((-1)) (2))) (3) (upd (upd (upd (gB σ 7) (0) ((-1))) (1) ((-1))) (2) ((-1)) (3))) (f22) := ⟨(o27 _ (by omega)).trans hR.1, (o27 _ (by omega)).trans hR.2.1, (o27 _ (by omega)).trans hR.2.2.1, (o27 _ (by omega)).trans hR.2.2.2.1, (o27 _ (by omega)).trans hR.2.2.2.2.1, (o27 _ (by omega)).trans hR.2.2.2.2.2.1, (o27 _ (by omega)).trans hR.2.2.2.2.2.2.1, (o27 _ (by omega)).trans hR.2.2.2.2.2.2.2.1, (o27 _ (by omega)).trans hR.2.2.2.2.2.2.2.2.1, e26, (o27 _ (by omega)).trans hR.2.2.2.2.2.2.2.2.2.2.1, (o27 _ (by omega)).trans hR.2.2.2.2.2.2.2.2.2.2.2.1, (o27 _ (by omega)).trans hR.2.2.2.2.2.2.2.2.2.2.2.2.1, (o27 _ (by omega)).trans hR.2.2.2.2.2.2.2.2.2.2.2.2.2.1, (o27 _ (by omega)).trans hR.2.2.2.2.2.2.2.2.2.2.2.2.2.2⟩
  have hO : ∀ q, (q < m ∨ m + 16 ≤ q) → h25 q = h q := fun q hq => (o27 q (by omega)).trans (hO q hq)
  refine g_aload_n C 1 dX12_daysNow_39 rfl rfl rfl ?_
  refine gf_12_13 C (hM) (v := .ref (m + 2)) rfl dX12_daysNow_40 rfl ?_
  refine g_iload C 0 dX12_daysNow_43 rfl rfl ?_
  refine g_iconst C (v := -1) dX12_daysNow_45 (by decide) rfl ?_
  refine g_iast' C (hR.2.1) (j := 3) rfl (by omega) (by decide) dX12_daysNow_46 (pc' := 47) rfl (fun h28 e29 o30 => ?_)
  have hM : MdO h28 m (uB (uB (uB (uB (σ) 7 (upd (gB σ 7) (0) ((-1)))) 7 (upd (upd (gB σ 7) (0) ((-1))) (1) ((-1)))) 7 (upd (upd (upd (gB σ 7) (0) ((-1))) (1) ((-1))) (2) ((-1)))) 7 (upd (upd (upd (upd (gB σ 7) (0) ((-1))) (1) ((-1))) (2) ((-1))) (3) ((-1)))) (s18) (gI σ 5) (nI (gN σ 6)) (s23) (s24) (s35) := (o30 _ (by omega)).trans hM
  have hR : MdR D h28 m (uB (uB (uB (uB (σ) 7 (upd (gB σ 7) (0) ((-1)))) 7 (upd (upd (gB σ 7) (0) ((-1))) (1) ((-1)))) 7 (upd (upd (upd (gB σ 7) (0) ((-1))) (1) ((-1))) (2) ((-1)))) 7 (upd (upd (upd (upd (gB σ 7) (0) ((-1))) (1) ((-1))) (2) ((-1))) (3) ((-1)))) (upd (upd (upd (upd (f21) (0) (gB σ 7 (0))) (1) (upd (gB σ 7) (0) ((-1)) (1))) (2) (upd (upd (gB σ 7) (0) ((-1))) (1) ((-1)) (2))) (3) (upd (upd (upd (gB σ 7) (0) ((-1))) (1) ((-1))) (2) ((-1)) (3))) (f22) := ⟨(o30 _ (by omega)).trans hR.1, e29, (o30 _ (by omega)).trans hR.2.2.1, (o30 _ (by omega)).trans hR.2.2.2.1, (o30 _ (by omega)).trans hR.2.2.2.2.1, (o30 _ (by omega)).trans hR.2.2.2.2.2.1, (o30 _ (by omega)).trans hR.2.2.2.2.2.2.1, (o30 _ (by omega)).trans hR.2.2.2.2.2.2.2.1, (o30 _ (by omega)).trans hR.2.2.2.2.2.2.2.2.1, (o30 _ (by omega)).trans hR.2.2.2.2.2.2.2.2.2.1, (o30 _ (by omega)).trans hR.2.2.2.2.2.2.2.2.2.2.1, (o30 _ (by omega)).trans hR.2.2.2.2.2.2.2.2.2.2.2.1, (o30 _ (by omega)).trans hR.2.2.2.2.2.2.2.2.2.2.2.2.1, (o30 _ (by omega)).trans hR.2.2.2.2.2.2.2.2.2.2.2.2.2.1, (o30 _ (by omega)).trans hR.2.2.2.2.2.2.2.2.2.2.2.2.2.2⟩
  have hO : ∀ q, (q < m ∨ m + 16 ≤ q) → h28 q = h q := fun q hq => (o30 q (by omega)).trans (hO q hq)
  refine g_iinc C (v := 4) 0 ([(4, .int (4)), (0, .ref (m)), (1, .int (nI (d))), (2, .int (nI (s))), (3, .int (w))]) dX12_daysNow_47 rfl (by decide) (by decide) rfl rfl ?_
  refine g_goto C dX12_daysNow_50 (tgt := 19) (by decide) ?_
  refine g_iload C 0 dX12_daysNow_19 rfl rfl ?_
  refine g_iconst C (v := 4) dX12_daysNow_21 (by decide) rfl ?_
  refine g_icmp_gt C dX12_daysNow_22 (tgt := 53) (by decide) (pc' := 25) rfl (fun c22 => absurd c22 (by decide)) (fun _ => ?_)
  refine g_aload_n C 1 dX12_daysNow_25 rfl rfl rfl ?_
  refine gf_12_38 C (hM) (v := .ref (m + 10)) rfl dX12_daysNow_26 rfl ?_
  refine g_iload C 0 dX12_daysNow_29 rfl rfl ?_
  refine g_aload_n C 1 dX12_daysNow_31 rfl rfl rfl ?_
  refine gf_12_13 C (hM) (v := .ref (m + 2)) rfl dX12_daysNow_32 rfl ?_
  refine g_iload C 0 dX12_daysNow_35 rfl rfl ?_
  refine g_iald' C (hR.2.1) (j := 4) rfl (by omega) (by decide) dX12_daysNow_37 rfl ?_
  refine g_iast' C (hR.2.2.2.2.2.2.2.2.2.1) (j := 4) rfl (by omega) (by decide) dX12_daysNow_38 (pc' := 39) rfl (fun h31 e32 o33 => ?_)
  have hM : MdO h31 m (uB (uB (uB (uB (σ) 7 (upd (gB σ 7) (0) ((-1)))) 7 (upd (upd (gB σ 7) (0) ((-1))) (1) ((-1)))) 7 (upd (upd (upd (gB σ 7) (0) ((-1))) (1) ((-1))) (2) ((-1)))) 7 (upd (upd (upd (upd (gB σ 7) (0) ((-1))) (1) ((-1))) (2) ((-1))) (3) ((-1)))) (s18) (gI σ 5) (nI (gN σ 6)) (s23) (s24) (s35) := (o33 _ (by omega)).trans hM
  have hR : MdR D h31 m (uB (uB (uB (uB (σ) 7 (upd (gB σ 7) (0) ((-1)))) 7 (upd (upd (gB σ 7) (0) ((-1))) (1) ((-1)))) 7 (upd (upd (upd (gB σ 7) (0) ((-1))) (1) ((-1))) (2) ((-1)))) 7 (upd (upd (upd (upd (gB σ 7) (0) ((-1))) (1) ((-1))) (2) ((-1))) (3) ((-1)))) (upd (upd (upd (upd (upd (f21) (0) (gB σ 7 (0))) (1) (upd (gB σ 7) (0) ((-1)) (1))) (2) (upd (upd (gB σ 7) (0) ((-1))) (1) ((-1)) (2))) (3) (upd (upd (upd (gB σ 7) (0) ((-1))) (1) ((-1))) (2) ((-1)) (3))) (4) (upd (upd (upd (upd (gB σ 7) (0) ((-1))) (1) ((-1))) (2) ((-1))) (3) ((-1)) (4))) (f22) := ⟨(o33 _ (by omega)).trans hR.1, (o33 _ (by omega)).trans hR.2.1, (o33 _ (by omega)).trans hR.2.2.1, (o33 _ (by omega)).trans hR.2.2.2.1, (o33 _ (by omega)).trans hR.2.2.2.2.1, (o33 _ (by omega)).trans hR.2.2.2.2.2.1, (o33 _ (by omega)).trans hR.2.2.2.2.2.2.1, (o33 _ (by omega)).trans hR.2.2.2.2.2.2.2.1, (o33 _ (by omega)).trans hR.2.2.2.2.2.2.2.2.1, e32, (o33 _ (by omega)).trans hR.2.2.2.2.2.2.2.2.2.2.1, (o33 _ (by omega)).trans hR.2.2.2.2.2.2.2.2.2.2.2.1, (o33 _ (by omega)).trans hR.2.2.2.2.2.2.2.2.2.2.2.2.1, (o33 _ (by omega)).trans hR.2.2.2.2.2.2.2.2.2.2.2.2.2.1, (o33 _ (by omega)).trans hR.2.2.2.2.2.2.2.2.2.2.2.2.2.2⟩
  have hO : ∀ q, (q < m ∨ m + 16 ≤ q) → h31 q = h q := fun q hq => (o33 q (by omega)).trans (hO q hq)
  refine g_aload_n C 1 dX12_daysNow_39 rfl rfl rfl ?_
  refine gf_12_13 C (hM) (v := .ref (m + 2)) rfl dX12_daysNow_40 rfl ?_
  refine g_iload C 0 dX12_daysNow_43 rfl rfl ?_
  refine g_iconst C (v := -1) dX12_daysNow_45 (by decide) rfl ?_
  refine g_iast' C (hR.2.1) (j := 4) rfl (by omega) (by decide) dX12_daysNow_46 (pc' := 47) rfl (fun h34 e35 o36 => ?_)
  have hM : MdO h34 m (uB (uB (uB (uB (uB (σ) 7 (upd (gB σ 7) (0) ((-1)))) 7 (upd (upd (gB σ 7) (0) ((-1))) (1) ((-1)))) 7 (upd (upd (upd (gB σ 7) (0) ((-1))) (1) ((-1))) (2) ((-1)))) 7 (upd (upd (upd (upd (gB σ 7) (0) ((-1))) (1) ((-1))) (2) ((-1))) (3) ((-1)))) 7 (upd (upd (upd (upd (upd (gB σ 7) (0) ((-1))) (1) ((-1))) (2) ((-1))) (3) ((-1))) (4) ((-1)))) (s18) (gI σ 5) (nI (gN σ 6)) (s23) (s24) (s35) := (o36 _ (by omega)).trans hM
  have hR : MdR D h34 m (uB (uB (uB (uB (uB (σ) 7 (upd (gB σ 7) (0) ((-1)))) 7 (upd (upd (gB σ 7) (0) ((-1))) (1) ((-1)))) 7 (upd (upd (upd (gB σ 7) (0) ((-1))) (1) ((-1))) (2) ((-1)))) 7 (upd (upd (upd (upd (gB σ 7) (0) ((-1))) (1) ((-1))) (2) ((-1))) (3) ((-1)))) 7 (upd (upd (upd (upd (upd (gB σ 7) (0) ((-1))) (1) ((-1))) (2) ((-1))) (3) ((-1))) (4) ((-1)))) (upd (upd (upd (upd (upd (f21) (0) (gB σ 7 (0))) (1) (upd (gB σ 7) (0) ((-1)) (1))) (2) (upd (upd (gB σ 7) (0) ((-1))) (1) ((-1)) (2))) (3) (upd (upd (upd (gB σ 7) (0) ((-1))) (1) ((-1))) (2) ((-1)) (3))) (4) (upd (upd (upd (upd (gB σ 7) (0) ((-1))) (1) ((-1))) (2) ((-1))) (3) ((-1)) (4))) (f22) := ⟨(o36 _ (by omega)).trans hR.1, e35, (o36 _ (by omega)).trans hR.2.2.1, (o36 _ (by omega)).trans hR.2.2.2.1, (o36 _ (by omega)).trans hR.2.2.2.2.1, (o36 _ (by omega)).trans hR.2.2.2.2.2.1, (o36 _ (by omega)).trans hR.2.2.2.2.2.2.1, (o36 _ (by omega)).trans hR.2.2.2.2.2.2.2.1, (o36 _ (by omega)).trans hR.2.2.2.2.2.2.2.2.1, (o36 _ (by omega)).trans hR.2.2.2.2.2.2.2.2.2.1, (o36 _ (by omega)).trans hR.2.2.2.2.2.2.2.2.2.2.1, (o36 _ (by omega)).trans hR.2.2.2.2.2.2.2.2.2.2.2.1, (o36 _ (by omega)).trans hR.2.2.2.2.2.2.2.2.2.2.2.2.1, (o36 _ (by omega)).trans hR.2.2.2.2.2.2.2.2.2.2.2.2.2.1, (o36 _ (by omega)).trans hR.2.2.2.2.2.2.2.2.2.2.2.2.2.2⟩
  have hO : ∀ q, (q < m ∨ m + 16 ≤ q) → h34 q = h q := fun q hq => (o36 q (by omega)).trans (hO q hq)
  refine g_iinc C (v := 5) 0 ([(4, .int (5)), (0, .ref (m)), (1, .int (nI (d))), (2, .int (nI (s))), (3, .int (w))]) dX12_daysNow_47 rfl (by decide) (by decide) rfl rfl ?_
  refine g_goto C dX12_daysNow_50 (tgt := 19) (by decide) ?_
  refine g_iload C 0 dX12_daysNow_19 rfl rfl ?_
  refine g_iconst C (v := 4) dX12_daysNow_21 (by decide) rfl ?_
  refine g_icmp_gt C dX12_daysNow_22 (tgt := 53) (by decide) (pc' := 25) rfl (fun _ => ?_) (fun c22 => absurd (by decide) c22)
  refine g_canon C ((show h34 (m + 2) = some (cI D 5 (upd (upd (upd (upd (upd (gB σ 7) (0) ((-1))) (1) ((-1))) (2) ((-1))) (3) ((-1))) (4) ((-1)))) from hR.2.1)) (g := fun _ => -1) (lt5d (by simp [upd]) (by simp [upd]) (by simp [upd]) (by simp [upd]) (by simp [upd])) (fun h37 e38 o39 => ?_)
  have hM : MdO h37 m ((uB σ 7 (fun _ => -1))) (s18) (gI σ 5) (nI (gN σ 6)) (s23) (s24) (s35) := (o39 _ (by omega)).trans hM
  have hR : MdR D h37 m ((uB σ 7 (fun _ => -1))) (upd (upd (upd (upd (upd (f21) (0) (gB σ 7 (0))) (1) (upd (gB σ 7) (0) ((-1)) (1))) (2) (upd (upd (gB σ 7) (0) ((-1))) (1) ((-1)) (2))) (3) (upd (upd (upd (gB σ 7) (0) ((-1))) (1) ((-1))) (2) ((-1)) (3))) (4) (upd (upd (upd (upd (gB σ 7) (0) ((-1))) (1) ((-1))) (2) ((-1))) (3) ((-1)) (4))) (f22) := ⟨(o39 _ (by omega)).trans hR.1, e38, (o39 _ (by omega)).trans hR.2.2.1, (o39 _ (by omega)).trans hR.2.2.2.1, (o39 _ (by omega)).trans hR.2.2.2.2.1, (o39 _ (by omega)).trans hR.2.2.2.2.2.1, (o39 _ (by omega)).trans hR.2.2.2.2.2.2.1, (o39 _ (by omega)).trans hR.2.2.2.2.2.2.2.1, (o39 _ (by omega)).trans hR.2.2.2.2.2.2.2.2.1, (o39 _ (by omega)).trans hR.2.2.2.2.2.2.2.2.2.1, (o39 _ (by omega)).trans hR.2.2.2.2.2.2.2.2.2.2.1, (o39 _ (by omega)).trans hR.2.2.2.2.2.2.2.2.2.2.2.1, (o39 _ (by omega)).trans hR.2.2.2.2.2.2.2.2.2.2.2.2.1, (o39 _ (by omega)).trans hR.2.2.2.2.2.2.2.2.2.2.2.2.2.1, (o39 _ (by omega)).trans hR.2.2.2.2.2.2.2.2.2.2.2.2.2.2⟩
  have hO : ∀ q, (q < m ∨ m + 16 ≤ q) → h37 q = h q := fun q hq => (o39 q (by omega)).trans (hO q hq)
  refine g_canon C ((show h37 (m + 10) = some (cI D 5 (upd (upd (upd (upd (upd (f21) (0) (gB σ 7 (0))) (1) (upd (gB σ 7) (0) ((-1)) (1))) (2) (upd (upd (gB σ 7) (0) ((-1))) (1) ((-1)) (2))) (3) (upd (upd (upd (gB σ 7) (0) ((-1))) (1) ((-1))) (2) ((-1)) (3))) (4) (upd (upd (upd (upd (gB σ 7) (0) ((-1))) (1) ((-1))) (2) ((-1))) (3) ((-1)) (4)))) from hR.2.2.2.2.2.2.2.2.2.1)) (g := gB σ 7) (lt5d (by simp [upd]) (by simp [upd]) (by simp [upd]) (by simp [upd]) (by simp [upd])) (fun h40 e41 o42 => ?_)
  have hM : MdO h40 m ((uB σ 7 (fun _ => -1))) (s18) (gI σ 5) (nI (gN σ 6)) (s23) (s24) (s35) := (o42 _ (by omega)).trans hM
  have hR : MdR D h40 m ((uB σ 7 (fun _ => -1))) (gB σ 7) (f22) := ⟨(o42 _ (by omega)).trans hR.1, (o42 _ (by omega)).trans hR.2.1, (o42 _ (by omega)).trans hR.2.2.1, (o42 _ (by omega)).trans hR.2.2.2.1, (o42 _ (by omega)).trans hR.2.2.2.2.1, (o42 _ (by omega)).trans hR.2.2.2.2.2.1, (o42 _ (by omega)).trans hR.2.2.2.2.2.2.1, (o42 _ (by omega)).trans hR.2.2.2.2.2.2.2.1, (o42 _ (by omega)).trans hR.2.2.2.2.2.2.2.2.1, e41, (o42 _ (by omega)).trans hR.2.2.2.2.2.2.2.2.2.2.1, (o42 _ (by omega)).trans hR.2.2.2.2.2.2.2.2.2.2.2.1, (o42 _ (by omega)).trans hR.2.2.2.2.2.2.2.2.2.2.2.2.1, (o42 _ (by omega)).trans hR.2.2.2.2.2.2.2.2.2.2.2.2.2.1, (o42 _ (by omega)).trans hR.2.2.2.2.2.2.2.2.2.2.2.2.2.2⟩
  have hO : ∀ q, (q < m ∨ m + 16 ≤ q) → h40 q = h q := fun q hq => (o42 q (by omega)).trans (hO q hq)
  refine g_aload_n C 1 dX12_daysNow_53 rfl rfl rfl ?_
  refine g_iload_n C 3 dX12_daysNow_54 rfl rfl rfl ?_
  refine g_i2l C dX12_daysNow_55 rfl ?_
  refine g_topl (y := lN s) (lN_ofI (by omega)) ?_
  refine pf_12_177 C (hM) (v := .long (lN s)) rfl rfl (Nat.le_of_ble_eq_true rfl) dX12_daysNow_56 (pc' := 59) rfl (fun h43 e44 o45 => ?_)
  have hM : MdO h43 m ((uB σ 7 (fun _ => -1))) (lN s) (gI σ 5) (nI (gN σ 6)) (s23) (s24) (s35) := e44
  have hR : MdR D h43 m ((uB σ 7 (fun _ => -1))) (gB σ 7) (f22) := hR.fr (fun q g1 g2 => o45 q (by omega))
  have hO : ∀ q, (q < m ∨ m + 16 ≤ q) → h43 q = h q := fun q hq => (o45 q (by omega)).trans (hO q hq)
  refine g_aload_n C 1 dX12_daysNow_59 rfl rfl rfl ?_
  refine g_iconst C (v := 0) dX12_daysNow_60 (by decide) rfl ?_
  refine pf_12_187 C (hM) (v := .int (0)) rfl rfl (Nat.le_of_ble_eq_true rfl) dX12_daysNow_61 (pc' := 64) rfl (fun h46 e47 o48 => ?_)
  have hM : MdO h46 m ((uB σ 7 (fun _ => -1))) (lN s) (gI σ 5) (nI (gN σ 6)) (0) (s24) (s35) := e47
  have hR : MdR D h46 m ((uB σ 7 (fun _ => -1))) (gB σ 7) (f22) := hR.fr (fun q g1 g2 => o48 q (by omega))
  have hO : ∀ q, (q < m ∨ m + 16 ≤ q) → h46 q = h q := fun q hq => (o48 q (by omega)).trans (hO q hq)
  refine g_aload_n C 1 dX12_daysNow_64 rfl rfl rfl ?_
  refine g_iconst C (v := 0) dX12_daysNow_65 (by decide) rfl ?_
  refine pf_12_196 C (hM) (v := .int (0)) rfl rfl (Nat.le_of_ble_eq_true rfl) dX12_daysNow_66 (pc' := 69) rfl (fun h49 e50 o51 => ?_)
  have hM : MdO h49 m ((uB σ 7 (fun _ => -1))) (lN s) (gI σ 5) (nI (gN σ 6)) (0) (0) (s35) := e50
  have hR : MdR D h49 m ((uB σ 7 (fun _ => -1))) (gB σ 7) (f22) := hR.fr (fun q g1 g2 => o51 q (by omega))
  have hO : ∀ q, (q < m ∨ m + 16 ≤ q) → h49 q = h q := fun q hq => (o51 q (by omega)).trans (hO q hq)
  refine g_iconst C (v := 0) dX12_daysNow_69 (by decide) rfl ?_
  refine g_istore C ([(4, .int (0)), (0, .ref (m)), (1, .int (nI (d))), (2, .int (nI (s))), (3, .int (w))]) dX12_daysNow_70 (by decide) rfl rfl ?_
  refine g_iconst C (v := 0) dX12_daysNow_72 (by decide) rfl ?_
  refine g_istore C ([(5, .int (0)), (4, .int (0)), (0, .ref (m)), (1, .int (nI (d))), (2, .int (nI (s))), (3, .int (w))]) dX12_daysNow_73 (by decide) rfl rfl ?_
  refine g_iconst C (v := 0) dX12_daysNow_75 (by decide) rfl ?_
  refine g_istore C ([(6, .int (0)), (5, .int (0)), (4, .int (0)), (0, .ref (m)), (1, .int (nI (d))), (2, .int (nI (s))), (3, .int (w))]) dX12_daysNow_76 (by decide) rfl rfl ?_
  have loop78 : ∀ (N : Nat) (k : Nat) (t : smT) (dn : Int32) (h1 : qH) (g1 : Nat → Int32), d - k < N → (k ≤ d) → (t = mmN σ s k) → (t.2.1 ≤ gN σ 3) → (∀ j, 1 ≤ j → j ≤ t.2.1 → g1 j = nI (t.1 j) ∧ t.1 j < 3) → (t.1 0 = t.2.2.2.2.1) → (t.2.2.2.2.1 < 3) → (t.2.2.1 < 2147483648) → (MdO h1 m ((trS σ (dn) t)) (lN t.2.2.1) (gI σ 5) (nI (gN σ 6)) (nI (t.2.1)) (t.2.2.2.2.2.2.2) (s35)) → (MdR D h1 m ((trS σ (dn) t)) (gB σ 7) (g1)) → (∀ q, (q < m ∨ m + 16 ≤ q) → h1 q = h q) → qG X 0 0 z h1 78 [(6, .int (nI (k))), (5, .int (t.2.2.2.2.2.2.1)), (4, .int (t.2.2.2.2.2.1)), (0, .ref (m)), (1, .int (nI (d))), (2, .int (nI (s))), (3, .int (w))] [] := by
    intro N
    induction N with
    | zero => intro k t dn h1 g1 hm; exact absurd hm (Nat.not_lt_zero _)
    | succ N ih78 =>
      intro k t dn h1 g1 hm hk ht hda hdr hd0 hwn hsd hM hR hO
      refine g_iload C 0 dX12_daysNow_78 rfl rfl ?_
      refine g_iload_n C 4 dX12_daysNow_80 rfl rfl rfl ?_
      refine g_icmp_ge C dX12_daysNow_81 (tgt := 117) (by decide) (pc' := 84) rfl ?_ ?_
      · intro c81
        replace c81 := (nI_leI (a := d) (b := k) (by omega) (by omega)).mp c81
        refine g_aload_n C 3 dX12_daysNow_117 rfl rfl rfl ?_
        refine g_aload_n C 3 dX12_daysNow_118 rfl rfl rfl ?_
        refine gf_12_199 C (hM) (v := .int (gI σ 5)) rfl dX12_daysNow_119 rfl ?_
        refine pf_12_89 C (hM) (v := .int (gI σ 5)) rfl rfl (Nat.le_of_ble_eq_true rfl) dX12_daysNow_122 (pc' := 125) rfl (fun h52 e53 o54 => ?_)
        have hM : MdO h52 m (uI ((trS σ (dn) t)) 5 (gI σ 5)) (lN t.2.2.1) (gI σ 5) (nI (gN σ 6)) (nI (t.2.1)) (t.2.2.2.2.2.2.2) (s35) := e53
        have hR : MdR D h52 m (uI ((trS σ (dn) t)) 5 (gI σ 5)) (gB σ 7) (g1) := hR.fr (fun q g1 g2 => o54 q (by omega))
        have hO : ∀ q, (q < m ∨ m + 16 ≤ q) → h52 q = h q := fun q hq => (o54 q (by omega)).trans (hO q hq)
        refine g_aload_n C 3 dX12_daysNow_125 rfl rfl rfl ?_
        refine g_aload_n C 3 dX12_daysNow_126 rfl rfl rfl ?_
        refine gf_12_202 C (hM) (v := .int (nI (gN σ 6))) rfl dX12_daysNow_127 rfl ?_
        refine pf_12_92 C (hM) (v := .int (nI (gN σ 6))) rfl rfl (Nat.le_of_ble_eq_true rfl) dX12_daysNow_130 (pc' := 133) rfl (fun h55 e56 o57 => ?_)
        have hM : MdO h55 m (uN (uI ((trS σ (dn) t)) 5 (gI σ 5)) 6 (gN σ 6)) (lN t.2.2.1) (gI σ 5) (nI (gN σ 6)) (nI (t.2.1)) (t.2.2.2.2.2.2.2) (s35) := e56
        have hR : MdR D h55 m (uN (uI ((trS σ (dn) t)) 5 (gI σ 5)) 6 (gN σ 6)) (gB σ 7) (g1) := hR.fr (fun q g1 g2 => o57 q (by omega))
        have hO : ∀ q, (q < m ∨ m + 16 ≤ q) → h55 q = h q := fun q hq => (o57 q (by omega)).trans (hO q hq)
        refine g_iconst C (v := 0) dX12_daysNow_133 (by decide) rfl ?_
        refine g_istore C ([(6, .int (0)), (5, .int (t.2.2.2.2.2.2.1)), (4, .int (t.2.2.2.2.2.1)), (0, .ref (m)), (1, .int (nI (d))), (2, .int (nI (s))), (3, .int (w))]) dX12_daysNow_134 (by decide) rfl rfl ?_
        refine g_iload C 0 dX12_daysNow_136 rfl rfl ?_
        refine g_iconst C (v := 4) dX12_daysNow_138 (by decide) rfl ?_
        refine g_icmp_gt C dX12_daysNow_139 (tgt := 162) (by decide) (pc' := 142) rfl (fun c139 => absurd c139 (by decide)) (fun _ => ?_)
        refine g_aload_n C 3 dX12_daysNow_142 rfl rfl rfl ?_
        refine gf_12_13 C (hM) (v := .ref (m + 2)) rfl dX12_daysNow_143 rfl ?_
        refine g_iload C 0 dX12_daysNow_146 rfl rfl ?_
        refine g_aload_n C 3 dX12_daysNow_148 rfl rfl rfl ?_
        refine gf_12_38 C (hM) (v := .ref (m + 10)) rfl dX12_daysNow_149 rfl ?_
        refine g_iload C 0 dX12_daysNow_152 rfl rfl ?_
        refine g_iald' C (hR.2.2.2.2.2.2.2.2.2.1) (j := 0) rfl (by omega) (by decide) dX12_daysNow_154 rfl ?_
        refine g_iast' C (hR.2.1) (j := 0) rfl (by omega) (by decide) dX12_daysNow_155 (pc' := 156) rfl (fun h58 e59 o60 => ?_)
        have hM : MdO h58 m (uB (uN (uI ((trS σ (dn) t)) 5 (gI σ 5)) 6 (gN σ 6)) 7 (upd (gB ((trS σ (dn) t)) 7) (0) (gB σ 7 (0)))) (lN t.2.2.1) (gI σ 5) (nI (gN σ 6)) (nI (t.2.1)) (t.2.2.2.2.2.2.2) (s35) := (o60 _ (by omega)).trans hM
        have hR : MdR D h58 m (uB (uN (uI ((trS σ (dn) t)) 5 (gI σ 5)) 6 (gN σ 6)) 7 (upd (gB ((trS σ (dn) t)) 7) (0) (gB σ 7 (0)))) (gB σ 7) (g1) := ⟨(o60 _ (by omega)).trans hR.1, e59, (o60 _ (by omega)).trans hR.2.2.1, (o60 _ (by omega)).trans hR.2.2.2.1, (o60 _ (by omega)).trans hR.2.2.2.2.1, (o60 _ (by omega)).trans hR.2.2.2.2.2.1, (o60 _ (by omega)).trans hR.2.2.2.2.2.2.1, (o60 _ (by omega)).trans hR.2.2.2.2.2.2.2.1, (o60 _ (by omega)).trans hR.2.2.2.2.2.2.2.2.1, (o60 _ (by omega)).trans hR.2.2.2.2.2.2.2.2.2.1, (o60 _ (by omega)).trans hR.2.2.2.2.2.2.2.2.2.2.1, (o60 _ (by omega)).trans hR.2.2.2.2.2.2.2.2.2.2.2.1, (o60 _ (by omega)).trans hR.2.2.2.2.2.2.2.2.2.2.2.2.1, (o60 _ (by omega)).trans hR.2.2.2.2.2.2.2.2.2.2.2.2.2.1, (o60 _ (by omega)).trans hR.2.2.2.2.2.2.2.2.2.2.2.2.2.2⟩
        have hO : ∀ q, (q < m ∨ m + 16 ≤ q) → h58 q = h q := fun q hq => (o60 q (by omega)).trans (hO q hq)
        refine g_iinc C (v := 1) 0 ([(6, .int (1)), (5, .int (t.2.2.2.2.2.2.1)), (4, .int (t.2.2.2.2.2.1)), (0, .ref (m)), (1, .int (nI (d))), (2, .int (nI (s))), (3, .int (w))]) dX12_daysNow_156 rfl (by decide) (by decide) rfl rfl ?_
        refine g_goto C dX12_daysNow_159 (tgt := 136) (by decide) ?_
        refine g_iload C 0 dX12_daysNow_136 rfl rfl ?_
        refine g_iconst C (v := 4) dX12_daysNow_138 (by decide) rfl ?_
        refine g_icmp_gt C dX12_daysNow_139 (tgt := 162) (by decide) (pc' := 142) rfl (fun c139 => absurd c139 (by decide)) (fun _ => ?_)
        refine g_aload_n C 3 dX12_daysNow_142 rfl rfl rfl ?_
        refine gf_12_13 C (hM) (v := .ref (m + 2)) rfl dX12_daysNow_143 rfl ?_
        refine g_iload C 0 dX12_daysNow_146 rfl rfl ?_
        refine g_aload_n C 3 dX12_daysNow_148 rfl rfl rfl ?_
        refine gf_12_38 C (hM) (v := .ref (m + 10)) rfl dX12_daysNow_149 rfl ?_
        refine g_iload C 0 dX12_daysNow_152 rfl rfl ?_
        refine g_iald' C (hR.2.2.2.2.2.2.2.2.2.1) (j := 1) rfl (by omega) (by decide) dX12_daysNow_154 rfl ?_
        refine g_iast' C (hR.2.1) (j := 1) rfl (by omega) (by decide) dX12_daysNow_155 (pc' := 156) rfl (fun h61 e62 o63 => ?_)
        have hM : MdO h61 m (uB (uB (uN (uI ((trS σ (dn) t)) 5 (gI σ 5)) 6 (gN σ 6)) 7 (upd (gB ((trS σ (dn) t)) 7) (0) (gB σ 7 (0)))) 7 (upd (upd (gB ((trS σ (dn) t)) 7) (0) (gB σ 7 (0))) (1) (gB σ 7 (1)))) (lN t.2.2.1) (gI σ 5) (nI (gN σ 6)) (nI (t.2.1)) (t.2.2.2.2.2.2.2) (s35) := (o63 _ (by omega)).trans hM
        have hR : MdR D h61 m (uB (uB (uN (uI ((trS σ (dn) t)) 5 (gI σ 5)) 6 (gN σ 6)) 7 (upd (gB ((trS σ (dn) t)) 7) (0) (gB σ 7 (0)))) 7 (upd (upd (gB ((trS σ (dn) t)) 7) (0) (gB σ 7 (0))) (1) (gB σ 7 (1)))) (gB σ 7) (g1) := ⟨(o63 _ (by omega)).trans hR.1, e62, (o63 _ (by omega)).trans hR.2.2.1, (o63 _ (by omega)).trans hR.2.2.2.1, (o63 _ (by omega)).trans hR.2.2.2.2.1, (o63 _ (by omega)).trans hR.2.2.2.2.2.1, (o63 _ (by omega)).trans hR.2.2.2.2.2.2.1, (o63 _ (by omega)).trans hR.2.2.2.2.2.2.2.1, (o63 _ (by omega)).trans hR.2.2.2.2.2.2.2.2.1, (o63 _ (by omega)).trans hR.2.2.2.2.2.2.2.2.2.1, (o63 _ (by omega)).trans hR.2.2.2.2.2.2.2.2.2.2.1, (o63 _ (by omega)).trans hR.2.2.2.2.2.2.2.2.2.2.2.1, (o63 _ (by omega)).trans hR.2.2.2.2.2.2.2.2.2.2.2.2.1, (o63 _ (by omega)).trans hR.2.2.2.2.2.2.2.2.2.2.2.2.2.1, (o63 _ (by omega)).trans hR.2.2.2.2.2.2.2.2.2.2.2.2.2.2⟩
        have hO : ∀ q, (q < m ∨ m + 16 ≤ q) → h61 q = h q := fun q hq => (o63 q (by omega)).trans (hO q hq)
        refine g_iinc C (v := 2) 0 ([(6, .int (2)), (5, .int (t.2.2.2.2.2.2.1)), (4, .int (t.2.2.2.2.2.1)), (0, .ref (m)), (1, .int (nI (d))), (2, .int (nI (s))), (3, .int (w))]) dX12_daysNow_156 rfl (by decide) (by decide) rfl rfl ?_
        refine g_goto C dX12_daysNow_159 (tgt := 136) (by decide) ?_
        refine g_iload C 0 dX12_daysNow_136 rfl rfl ?_
        refine g_iconst C (v := 4) dX12_daysNow_138 (by decide) rfl ?_
        refine g_icmp_gt C dX12_daysNow_139 (tgt := 162) (by decide) (pc' := 142) rfl (fun c139 => absurd c139 (by decide)) (fun _ => ?_)
        refine g_aload_n C 3 dX12_daysNow_142 rfl rfl rfl ?_
        refine gf_12_13 C (hM) (v := .ref (m + 2)) rfl dX12_daysNow_143 rfl ?_
        refine g_iload C 0 dX12_daysNow_146 rfl rfl ?_
        refine g_aload_n C 3 dX12_daysNow_148 rfl rfl rfl ?_
        refine gf_12_38 C (hM) (v := .ref (m + 10)) rfl dX12_daysNow_149 rfl ?_
        refine g_iload C 0 dX12_daysNow_152 rfl rfl ?_
        refine g_iald' C (hR.2.2.2.2.2.2.2.2.2.1) (j := 2) rfl (by omega) (by decide) dX12_daysNow_154 rfl ?_
        refine g_iast' C (hR.2.1) (j := 2) rfl (by omega) (by decide) dX12_daysNow_155 (pc' := 156) rfl (fun h64 e65 o66 => ?_)
        have hM : MdO h64 m (uB (uB (uB (uN (uI ((trS σ (dn) t)) 5 (gI σ 5)) 6 (gN σ 6)) 7 (upd (gB ((trS σ (dn) t)) 7) (0) (gB σ 7 (0)))) 7 (upd (upd (gB ((trS σ (dn) t)) 7) (0) (gB σ 7 (0))) (1) (gB σ 7 (1)))) 7 (upd (upd (upd (gB ((trS σ (dn) t)) 7) (0) (gB σ 7 (0))) (1) (gB σ 7 (1))) (2) (gB σ 7 (2)))) (lN t.2.2.1) (gI σ 5) (nI (gN σ 6)) (nI (t.2.1)) (t.2.2.2.2.2.2.2) (s35) := (o66 _ (by omega)).trans hM
        have hR : MdR D h64 m (uB (uB (uB (uN (uI ((trS σ (dn) t)) 5 (gI σ 5)) 6 (gN σ 6)) 7 (upd (gB ((trS σ (dn) t)) 7) (0) (gB σ 7 (0)))) 7 (upd (upd (gB ((trS σ (dn) t)) 7) (0) (gB σ 7 (0))) (1) (gB σ 7 (1)))) 7 (upd (upd (upd (gB ((trS σ (dn) t)) 7) (0) (gB σ 7 (0))) (1) (gB σ 7 (1))) (2) (gB σ 7 (2)))) (gB σ 7) (g1) := ⟨(o66 _ (by omega)).trans hR.1, e65, (o66 _ (by omega)).trans hR.2.2.1, (o66 _ (by omega)).trans hR.2.2.2.1, (o66 _ (by omega)).trans hR.2.2.2.2.1, (o66 _ (by omega)).trans hR.2.2.2.2.2.1, (o66 _ (by omega)).trans hR.2.2.2.2.2.2.1, (o66 _ (by omega)).trans hR.2.2.2.2.2.2.2.1, (o66 _ (by omega)).trans hR.2.2.2.2.2.2.2.2.1, (o66 _ (by omega)).trans hR.2.2.2.2.2.2.2.2.2.1, (o66 _ (by omega)).trans hR.2.2.2.2.2.2.2.2.2.2.1, (o66 _ (by omega)).trans hR.2.2.2.2.2.2.2.2.2.2.2.1, (o66 _ (by omega)).trans hR.2.2.2.2.2.2.2.2.2.2.2.2.1, (o66 _ (by omega)).trans hR.2.2.2.2.2.2.2.2.2.2.2.2.2.1, (o66 _ (by omega)).trans hR.2.2.2.2.2.2.2.2.2.2.2.2.2.2⟩
        have hO : ∀ q, (q < m ∨ m + 16 ≤ q) → h64 q = h q := fun q hq => (o66 q (by omega)).trans (hO q hq)
        refine g_iinc C (v := 3) 0 ([(6, .int (3)), (5, .int (t.2.2.2.2.2.2.1)), (4, .int (t.2.2.2.2.2.1)), (0, .ref (m)), (1, .int (nI (d))), (2, .int (nI (s))), (3, .int (w))]) dX12_daysNow_156 rfl (by decide) (by decide) rfl rfl ?_
        refine g_goto C dX12_daysNow_159 (tgt := 136) (by decide) ?_
        refine g_iload C 0 dX12_daysNow_136 rfl rfl ?_
        refine g_iconst C (v := 4) dX12_daysNow_138 (by decide) rfl ?_
        refine g_icmp_gt C dX12_daysNow_139 (tgt := 162) (by decide) (pc' := 142) rfl (fun c139 => absurd c139 (by decide)) (fun _ => ?_)
        refine g_aload_n C 3 dX12_daysNow_142 rfl rfl rfl ?_
        refine gf_12_13 C (hM) (v := .ref (m + 2)) rfl dX12_daysNow_143 rfl ?_
        refine g_iload C 0 dX12_daysNow_146 rfl rfl ?_
        refine g_aload_n C 3 dX12_daysNow_148 rfl rfl rfl ?_
        refine gf_12_38 C (hM) (v := .ref (m + 10)) rfl dX12_daysNow_149 rfl ?_
        refine g_iload C 0 dX12_daysNow_152 rfl rfl ?_
        refine g_iald' C (hR.2.2.2.2.2.2.2.2.2.1) (j := 3) rfl (by omega) (by decide) dX12_daysNow_154 rfl ?_
        refine g_iast' C (hR.2.1) (j := 3) rfl (by omega) (by decide) dX12_daysNow_155 (pc' := 156) rfl (fun h67 e68 o69 => ?_)
        have hM : MdO h67 m (uB (uB (uB (uB (uN (uI ((trS σ (dn) t)) 5 (gI σ 5)) 6 (gN σ 6)) 7 (upd (gB ((trS σ (dn) t)) 7) (0) (gB σ 7 (0)))) 7 (upd (upd (gB ((trS σ (dn) t)) 7) (0) (gB σ 7 (0))) (1) (gB σ 7 (1)))) 7 (upd (upd (upd (gB ((trS σ (dn) t)) 7) (0) (gB σ 7 (0))) (1) (gB σ 7 (1))) (2) (gB σ 7 (2)))) 7 (upd (upd (upd (upd (gB ((trS σ (dn) t)) 7) (0) (gB σ 7 (0))) (1) (gB σ 7 (1))) (2) (gB σ 7 (2))) (3) (gB σ 7 (3)))) (lN t.2.2.1) (gI σ 5) (nI (gN σ 6)) (nI (t.2.1)) (t.2.2.2.2.2.2.2) (s35) := (o69 _ (by omega)).trans hM
        have hR : MdR D h67 m (uB (uB (uB (uB (uN (uI ((trS σ (dn) t)) 5 (gI σ 5)) 6 (gN σ 6)) 7 (upd (gB ((trS σ (dn) t)) 7) (0) (gB σ 7 (0)))) 7 (upd (upd (gB ((trS σ (dn) t)) 7) (0) (gB σ 7 (0))) (1) (gB σ 7 (1)))) 7 (upd (upd (upd (gB ((trS σ (dn) t)) 7) (0) (gB σ 7 (0))) (1) (gB σ 7 (1))) (2) (gB σ 7 (2)))) 7 (upd (upd (upd (upd (gB ((trS σ (dn) t)) 7) (0) (gB σ 7 (0))) (1) (gB σ 7 (1))) (2) (gB σ 7 (2))) (3) (gB σ 7 (3)))) (gB σ 7) (g1) := ⟨(o69 _ (by omega)).trans hR.1, e68, (o69 _ (by omega)).trans hR.2.2.1, (o69 _ (by omega)).trans hR.2.2.2.1, (o69 _ (by omega)).trans hR.2.2.2.2.1, (o69 _ (by omega)).trans hR.2.2.2.2.2.1, (o69 _ (by omega)).trans hR.2.2.2.2.2.2.1, (o69 _ (by omega)).trans hR.2.2.2.2.2.2.2.1, (o69 _ (by omega)).trans hR.2.2.2.2.2.2.2.2.1, (o69 _ (by omega)).trans hR.2.2.2.2.2.2.2.2.2.1, (o69 _ (by omega)).trans hR.2.2.2.2.2.2.2.2.2.2.1, (o69 _ (by omega)).trans hR.2.2.2.2.2.2.2.2.2.2.2.1, (o69 _ (by omega)).trans hR.2.2.2.2.2.2.2.2.2.2.2.2.1, (o69 _ (by omega)).trans hR.2.2.2.2.2.2.2.2.2.2.2.2.2.1, (o69 _ (by omega)).trans hR.2.2.2.2.2.2.2.2.2.2.2.2.2.2⟩
        have hO : ∀ q, (q < m ∨ m + 16 ≤ q) → h67 q = h q := fun q hq => (o69 q (by omega)).trans (hO q hq)
        refine g_iinc C (v := 4) 0 ([(6, .int (4)), (5, .int (t.2.2.2.2.2.2.1)), (4, .int (t.2.2.2.2.2.1)), (0, .ref (m)), (1, .int (nI (d))), (2, .int (nI (s))), (3, .int (w))]) dX12_daysNow_156 rfl (by decide) (by decide) rfl rfl ?_
        refine g_goto C dX12_daysNow_159 (tgt := 136) (by decide) ?_
        refine g_iload C 0 dX12_daysNow_136 rfl rfl ?_
        refine g_iconst C (v := 4) dX12_daysNow_138 (by decide) rfl ?_
        refine g_icmp_gt C dX12_daysNow_139 (tgt := 162) (by decide) (pc' := 142) rfl (fun c139 => absurd c139 (by decide)) (fun _ => ?_)
        refine g_aload_n C 3 dX12_daysNow_142 rfl rfl rfl ?_
        refine gf_12_13 C (hM) (v := .ref (m + 2)) rfl dX12_daysNow_143 rfl ?_
        refine g_iload C 0 dX12_daysNow_146 rfl rfl ?_
        refine g_aload_n C 3 dX12_daysNow_148 rfl rfl rfl ?_
        refine gf_12_38 C (hM) (v := .ref (m + 10)) rfl dX12_daysNow_149 rfl ?_
        refine g_iload C 0 dX12_daysNow_152 rfl rfl ?_
        refine g_iald' C (hR.2.2.2.2.2.2.2.2.2.1) (j := 4) rfl (by omega) (by decide) dX12_daysNow_154 rfl ?_
        refine g_iast' C (hR.2.1) (j := 4) rfl (by omega) (by decide) dX12_daysNow_155 (pc' := 156) rfl (fun h70 e71 o72 => ?_)
        have hM : MdO h70 m (uB (uB (uB (uB (uB (uN (uI ((trS σ (dn) t)) 5 (gI σ 5)) 6 (gN σ 6)) 7 (upd (gB ((trS σ (dn) t)) 7) (0) (gB σ 7 (0)))) 7 (upd (upd (gB ((trS σ (dn) t)) 7) (0) (gB σ 7 (0))) (1) (gB σ 7 (1)))) 7 (upd (upd (upd (gB ((trS σ (dn) t)) 7) (0) (gB σ 7 (0))) (1) (gB σ 7 (1))) (2) (gB σ 7 (2)))) 7 (upd (upd (upd (upd (gB ((trS σ (dn) t)) 7) (0) (gB σ 7 (0))) (1) (gB σ 7 (1))) (2) (gB σ 7 (2))) (3) (gB σ 7 (3)))) 7 (upd (upd (upd (upd (upd (gB ((trS σ (dn) t)) 7) (0) (gB σ 7 (0))) (1) (gB σ 7 (1))) (2) (gB σ 7 (2))) (3) (gB σ 7 (3))) (4) (gB σ 7 (4)))) (lN t.2.2.1) (gI σ 5) (nI (gN σ 6)) (nI (t.2.1)) (t.2.2.2.2.2.2.2) (s35) := (o72 _ (by omega)).trans hM
        have hR : MdR D h70 m (uB (uB (uB (uB (uB (uN (uI ((trS σ (dn) t)) 5 (gI σ 5)) 6 (gN σ 6)) 7 (upd (gB ((trS σ (dn) t)) 7) (0) (gB σ 7 (0)))) 7 (upd (upd (gB ((trS σ (dn) t)) 7) (0) (gB σ 7 (0))) (1) (gB σ 7 (1)))) 7 (upd (upd (upd (gB ((trS σ (dn) t)) 7) (0) (gB σ 7 (0))) (1) (gB σ 7 (1))) (2) (gB σ 7 (2)))) 7 (upd (upd (upd (upd (gB ((trS σ (dn) t)) 7) (0) (gB σ 7 (0))) (1) (gB σ 7 (1))) (2) (gB σ 7 (2))) (3) (gB σ 7 (3)))) 7 (upd (upd (upd (upd (upd (gB ((trS σ (dn) t)) 7) (0) (gB σ 7 (0))) (1) (gB σ 7 (1))) (2) (gB σ 7 (2))) (3) (gB σ 7 (3))) (4) (gB σ 7 (4)))) (gB σ 7) (g1) := ⟨(o72 _ (by omega)).trans hR.1, e71, (o72 _ (by omega)).trans hR.2.2.1, (o72 _ (by omega)).trans hR.2.2.2.1, (o72 _ (by omega)).trans hR.2.2.2.2.1, (o72 _ (by omega)).trans hR.2.2.2.2.2.1, (o72 _ (by omega)).trans hR.2.2.2.2.2.2.1, (o72 _ (by omega)).trans hR.2.2.2.2.2.2.2.1, (o72 _ (by omega)).trans hR.2.2.2.2.2.2.2.2.1, (o72 _ (by omega)).trans hR.2.2.2.2.2.2.2.2.2.1, (o72 _ (by omega)).trans hR.2.2.2.2.2.2.2.2.2.2.1, (o72 _ (by omega)).trans hR.2.2.2.2.2.2.2.2.2.2.2.1, (o72 _ (by omega)).trans hR.2.2.2.2.2.2.2.2.2.2.2.2.1, (o72 _ (by omega)).trans hR.2.2.2.2.2.2.2.2.2.2.2.2.2.1, (o72 _ (by omega)).trans hR.2.2.2.2.2.2.2.2.2.2.2.2.2.2⟩
        have hO : ∀ q, (q < m ∨ m + 16 ≤ q) → h70 q = h q := fun q hq => (o72 q (by omega)).trans (hO q hq)
        refine g_iinc C (v := 5) 0 ([(6, .int (5)), (5, .int (t.2.2.2.2.2.2.1)), (4, .int (t.2.2.2.2.2.1)), (0, .ref (m)), (1, .int (nI (d))), (2, .int (nI (s))), (3, .int (w))]) dX12_daysNow_156 rfl (by decide) (by decide) rfl rfl ?_
        refine g_goto C dX12_daysNow_159 (tgt := 136) (by decide) ?_
        refine g_iload C 0 dX12_daysNow_136 rfl rfl ?_
        refine g_iconst C (v := 4) dX12_daysNow_138 (by decide) rfl ?_
        refine g_icmp_gt C dX12_daysNow_139 (tgt := 162) (by decide) (pc' := 142) rfl (fun _ => ?_) (fun c139 => absurd (by decide) c139)
        refine g_iload_n C 6 dX12_daysNow_162 rfl rfl rfl ?_
        refine g_if_ne C dX12_daysNow_163 (tgt := 171) (by decide) (pc' := 166) rfl ?_ ?_
        · intro c163
          refine g_iload_n C 6 dX12_daysNow_171 rfl rfl rfl ?_
          refine g_iconst C (v := 1) dX12_daysNow_172 (by decide) rfl ?_
          refine g_icmp_ne C dX12_daysNow_173 (tgt := 181) (by decide) (pc' := 176) rfl ?_ ?_
          · intro c173
            refine g_iload_n C 6 dX12_daysNow_181 rfl rfl rfl ?_
            refine g_iconst C (v := 2) dX12_daysNow_182 (by decide) rfl ?_
            refine g_icmp_ne C dX12_daysNow_183 (tgt := 193) (by decide) (pc' := 186) rfl ?_ ?_
            · intro c183
              refine g_aload_n C 3 dX12_daysNow_193 rfl rfl rfl ?_
              refine gf_12_177 C (hM) (v := .long (lN t.2.2.1)) rfl dX12_daysNow_194 rfl ?_
              refine g_l2i C dX12_daysNow_197 rfl ?_
              refine g_canon C ((show h70 (m + 2) = some (cI D 5 (upd (upd (upd (upd (upd (gB ((trS σ (dn) t)) 7) (0) (gB σ 7 (0))) (1) (gB σ 7 (1))) (2) (gB σ 7 (2))) (3) (gB σ 7 (3))) (4) (gB σ 7 (4)))) from hR.2.1)) (g := gB σ 7) (lt5d (by simp [upd]) (by simp [upd]) (by simp [upd]) (by simp [upd]) (by simp [upd])) (fun h73 e74 o75 => ?_)
              have hM : MdO h73 m (σ) (lN t.2.2.1) (gI σ 5) (nI (gN σ 6)) (nI (t.2.1)) (t.2.2.2.2.2.2.2) (s35) := (o75 _ (by omega)).trans hM
              have hR : MdR D h73 m (σ) (gB σ 7) (g1) := ⟨(o75 _ (by omega)).trans hR.1, e74, (o75 _ (by omega)).trans hR.2.2.1, (o75 _ (by omega)).trans hR.2.2.2.1, (o75 _ (by omega)).trans hR.2.2.2.2.1, (o75 _ (by omega)).trans hR.2.2.2.2.2.1, (o75 _ (by omega)).trans hR.2.2.2.2.2.2.1, (o75 _ (by omega)).trans hR.2.2.2.2.2.2.2.1, (o75 _ (by omega)).trans hR.2.2.2.2.2.2.2.2.1, (o75 _ (by omega)).trans hR.2.2.2.2.2.2.2.2.2.1, (o75 _ (by omega)).trans hR.2.2.2.2.2.2.2.2.2.2.1, (o75 _ (by omega)).trans hR.2.2.2.2.2.2.2.2.2.2.2.1, (o75 _ (by omega)).trans hR.2.2.2.2.2.2.2.2.2.2.2.2.1, (o75 _ (by omega)).trans hR.2.2.2.2.2.2.2.2.2.2.2.2.2.1, (o75 _ (by omega)).trans hR.2.2.2.2.2.2.2.2.2.2.2.2.2.2⟩
              have hO : ∀ q, (q < m ∨ m + 16 ≤ q) → h73 q = h q := fun q hq => (o75 q (by omega)).trans (hO q hq)
              exact ret _ _ _ _ dX12_daysNow_198 rfl (⟨by rw [← show k = d by omega, ← ht]; unfold smA; rw [if_neg c163, if_neg c173, if_neg c183], ⟨_, _, _, _, _, _, _, _, hM, hR⟩, hO⟩)
            · intro c183
              refine g_aload_n C 3 dX12_daysNow_186 rfl rfl rfl ?_
              refine gf_12_196 C (hM) (v := .int (t.2.2.2.2.2.2.2)) rfl dX12_daysNow_187 rfl ?_
              refine g_goto C dX12_daysNow_190 (tgt := 198) (by decide) ?_
              refine g_canon C ((show h70 (m + 2) = some (cI D 5 (upd (upd (upd (upd (upd (gB ((trS σ (dn) t)) 7) (0) (gB σ 7 (0))) (1) (gB σ 7 (1))) (2) (gB σ 7 (2))) (3) (gB σ 7 (3))) (4) (gB σ 7 (4)))) from hR.2.1)) (g := gB σ 7) (lt5d (by simp [upd]) (by simp [upd]) (by simp [upd]) (by simp [upd]) (by simp [upd])) (fun h76 e77 o78 => ?_)
              have hM : MdO h76 m (σ) (lN t.2.2.1) (gI σ 5) (nI (gN σ 6)) (nI (t.2.1)) (t.2.2.2.2.2.2.2) (s35) := (o78 _ (by omega)).trans hM
              have hR : MdR D h76 m (σ) (gB σ 7) (g1) := ⟨(o78 _ (by omega)).trans hR.1, e77, (o78 _ (by omega)).trans hR.2.2.1, (o78 _ (by omega)).trans hR.2.2.2.1, (o78 _ (by omega)).trans hR.2.2.2.2.1, (o78 _ (by omega)).trans hR.2.2.2.2.2.1, (o78 _ (by omega)).trans hR.2.2.2.2.2.2.1, (o78 _ (by omega)).trans hR.2.2.2.2.2.2.2.1, (o78 _ (by omega)).trans hR.2.2.2.2.2.2.2.2.1, (o78 _ (by omega)).trans hR.2.2.2.2.2.2.2.2.2.1, (o78 _ (by omega)).trans hR.2.2.2.2.2.2.2.2.2.2.1, (o78 _ (by omega)).trans hR.2.2.2.2.2.2.2.2.2.2.2.1, (o78 _ (by omega)).trans hR.2.2.2.2.2.2.2.2.2.2.2.2.1, (o78 _ (by omega)).trans hR.2.2.2.2.2.2.2.2.2.2.2.2.2.1, (o78 _ (by omega)).trans hR.2.2.2.2.2.2.2.2.2.2.2.2.2.2⟩
              have hO : ∀ q, (q < m ∨ m + 16 ≤ q) → h76 q = h q := fun q hq => (o78 q (by omega)).trans (hO q hq)
              exact ret _ _ _ _ dX12_daysNow_198 rfl (⟨by rw [← show k = d by omega, ← ht]; unfold smA; rw [if_neg c163, if_neg c173, if_pos c183], ⟨_, _, _, _, _, _, _, _, hM, hR⟩, hO⟩)
          · intro c173
            refine g_iload C 1 dX12_daysNow_176 rfl rfl ?_
            refine g_goto C dX12_daysNow_178 (tgt := 198) (by decide) ?_
            refine g_canon C ((show h70 (m + 2) = some (cI D 5 (upd (upd (upd (upd (upd (gB ((trS σ (dn) t)) 7) (0) (gB σ 7 (0))) (1) (gB σ 7 (1))) (2) (gB σ 7 (2))) (3) (gB σ 7 (3))) (4) (gB σ 7 (4)))) from hR.2.1)) (g := gB σ 7) (lt5d (by simp [upd]) (by simp [upd]) (by simp [upd]) (by simp [upd]) (by simp [upd])) (fun h79 e80 o81 => ?_)
            have hM : MdO h79 m (σ) (lN t.2.2.1) (gI σ 5) (nI (gN σ 6)) (nI (t.2.1)) (t.2.2.2.2.2.2.2) (s35) := (o81 _ (by omega)).trans hM
            have hR : MdR D h79 m (σ) (gB σ 7) (g1) := ⟨(o81 _ (by omega)).trans hR.1, e80, (o81 _ (by omega)).trans hR.2.2.1, (o81 _ (by omega)).trans hR.2.2.2.1, (o81 _ (by omega)).trans hR.2.2.2.2.1, (o81 _ (by omega)).trans hR.2.2.2.2.2.1, (o81 _ (by omega)).trans hR.2.2.2.2.2.2.1, (o81 _ (by omega)).trans hR.2.2.2.2.2.2.2.1, (o81 _ (by omega)).trans hR.2.2.2.2.2.2.2.2.1, (o81 _ (by omega)).trans hR.2.2.2.2.2.2.2.2.2.1, (o81 _ (by omega)).trans hR.2.2.2.2.2.2.2.2.2.2.1, (o81 _ (by omega)).trans hR.2.2.2.2.2.2.2.2.2.2.2.1, (o81 _ (by omega)).trans hR.2.2.2.2.2.2.2.2.2.2.2.2.1, (o81 _ (by omega)).trans hR.2.2.2.2.2.2.2.2.2.2.2.2.2.1, (o81 _ (by omega)).trans hR.2.2.2.2.2.2.2.2.2.2.2.2.2.2⟩
            have hO : ∀ q, (q < m ∨ m + 16 ≤ q) → h79 q = h q := fun q hq => (o81 q (by omega)).trans (hO q hq)
            exact ret _ _ _ _ dX12_daysNow_198 rfl (⟨by rw [← show k = d by omega, ← ht]; unfold smA; rw [if_neg c163, if_pos c173], ⟨_, _, _, _, _, _, _, _, hM, hR⟩, hO⟩)
        · intro c163
          refine g_iload C 2 dX12_daysNow_166 rfl rfl ?_
          refine g_goto C dX12_daysNow_168 (tgt := 198) (by decide) ?_
          refine g_canon C ((show h70 (m + 2) = some (cI D 5 (upd (upd (upd (upd (upd (gB ((trS σ (dn) t)) 7) (0) (gB σ 7 (0))) (1) (gB σ 7 (1))) (2) (gB σ 7 (2))) (3) (gB σ 7 (3))) (4) (gB σ 7 (4)))) from hR.2.1)) (g := gB σ 7) (lt5d (by simp [upd]) (by simp [upd]) (by simp [upd]) (by simp [upd]) (by simp [upd])) (fun h82 e83 o84 => ?_)
          have hM : MdO h82 m (σ) (lN t.2.2.1) (gI σ 5) (nI (gN σ 6)) (nI (t.2.1)) (t.2.2.2.2.2.2.2) (s35) := (o84 _ (by omega)).trans hM
          have hR : MdR D h82 m (σ) (gB σ 7) (g1) := ⟨(o84 _ (by omega)).trans hR.1, e83, (o84 _ (by omega)).trans hR.2.2.1, (o84 _ (by omega)).trans hR.2.2.2.1, (o84 _ (by omega)).trans hR.2.2.2.2.1, (o84 _ (by omega)).trans hR.2.2.2.2.2.1, (o84 _ (by omega)).trans hR.2.2.2.2.2.2.1, (o84 _ (by omega)).trans hR.2.2.2.2.2.2.2.1, (o84 _ (by omega)).trans hR.2.2.2.2.2.2.2.2.1, (o84 _ (by omega)).trans hR.2.2.2.2.2.2.2.2.2.1, (o84 _ (by omega)).trans hR.2.2.2.2.2.2.2.2.2.2.1, (o84 _ (by omega)).trans hR.2.2.2.2.2.2.2.2.2.2.2.1, (o84 _ (by omega)).trans hR.2.2.2.2.2.2.2.2.2.2.2.2.1, (o84 _ (by omega)).trans hR.2.2.2.2.2.2.2.2.2.2.2.2.2.1, (o84 _ (by omega)).trans hR.2.2.2.2.2.2.2.2.2.2.2.2.2.2⟩
          have hO : ∀ q, (q < m ∨ m + 16 ≤ q) → h82 q = h q := fun q hq => (o84 q (by omega)).trans (hO q hq)
          exact ret _ _ _ _ dX12_daysNow_198 rfl (⟨by rw [← show k = d by omega, ← ht]; unfold smA; rw [if_pos c163], ⟨_, _, _, _, _, _, _, _, hM, hR⟩, hO⟩)
      · intro c81
        replace c81 := (not_congr (nI_leI (a := d) (b := k) (by omega) (by omega))).mp c81
        refine g_iload C 1 dX12_daysNow_84 rfl rfl ?_
        refine g_aload_n C 3 dX12_daysNow_86 rfl rfl rfl ?_
        refine g_callVi C (As := []) (q := (RX12, TX12, 36)) (k_X12_goSeeded l D b z (σ := trS σ dn t) (dN := t.1) (da := t.2.1) (sd := t.2.2.1) hsd hwn hn3 hIt hda hdr hd0 hn31 hn4 hn8 hM hR) hw_12_205 (hM) rfl (by decide) rfl rfl (Nat.le_of_ble_eq_true rfl) ⟨Nat.zero_le _, Nat.zero_le _⟩ dX12_daysNow_87 (pc' := 90) rfl ?_
        rintro r85 h86 ⟨eN, sd1, g2, hex, er, hM, hR, hdr2, hw3, fr87⟩
        subst er
        replace hex : exS (gA σ 2) (t.1, t.2.1, t.2.2.1) (gN σ 3) = (eN, gN σ 3, sd1) := hex
        have hM : MdO h86 m ((trS σ (dn + 1) (mmT σ dn t eN sd1))) (lN (mmT σ dn t eN sd1).2.2.1) (gI σ 5) (nI (gN σ 6)) (nI ((mmT σ dn t eN sd1).2.1)) ((mmT σ dn t eN sd1).2.2.2.2.2.2.2) (s35) := hM
        have hR : MdR D h86 m ((trS σ (dn + 1) (mmT σ dn t eN sd1))) (gB σ 7) (g2) := hR
        have hO : ∀ q, (q < m ∨ m + 16 ≤ q) → h86 q = h q := fun q hq => (fr87 q (by omega)).trans (hO q hq)
        refine g_iadd C dX12_daysNow_90 rfl ?_
        refine g_istore C ([(5, .int ((t.2.2.2.2.2.2.1) + (saM (gsS (trS σ dn t) eN sd1) (eN 1) (gN σ 8)))), (6, .int (nI (k))), (4, .int (t.2.2.2.2.2.1)), (0, .ref (m)), (1, .int (nI (d))), (2, .int (nI (s))), (3, .int (w))]) dX12_daysNow_91 (by decide) rfl rfl ?_
        refine g_iload C 2 dX12_daysNow_93 rfl rfl ?_
        refine g_aload_n C 3 dX12_daysNow_95 rfl rfl rfl ?_
        refine gf_12_92 C (hM) (v := .int (nI (gN ((trS σ (dn + 1) (mmT σ dn t eN sd1))) 6))) rfl dX12_daysNow_96 rfl ?_
        refine g_topi (y := nI (eN 1)) rfl ?_
        refine g_iconst C (v := 1) dX12_daysNow_99 (by decide) rfl ?_
        refine g_icmp_ne C dX12_daysNow_100 (tgt := 107) (by decide) (pc' := 103) rfl ?_ ?_
        · intro c100
          replace c100 := (not_congr (nI_eq (a := eN 1) (b := 1) (by omega) (by omega))).mp c100
          refine g_iconst C (v := 0) dX12_daysNow_107 (by decide) rfl ?_
          refine g_iadd C dX12_daysNow_108 rfl ?_
          refine g_topi (y := t.2.2.2.2.2.1 + (if eN 1 = 1 then 1 else 0)) (by first | rw [if_pos c100] | rw [if_neg c100]) ?_
          refine g_istore C ([(4, .int (t.2.2.2.2.2.1 + (if eN 1 = 1 then 1 else 0))), (5, .int ((t.2.2.2.2.2.2.1) + (saM (gsS (trS σ dn t) eN sd1) (eN 1) (gN σ 8)))), (6, .int (nI (k))), (0, .ref (m)), (1, .int (nI (d))), (2, .int (nI (s))), (3, .int (w))]) dX12_daysNow_109 (by decide) rfl rfl ?_
          refine g_iinc C (v := nI (k + 1)) 2 ([(6, .int (nI (k + 1))), (4, .int (t.2.2.2.2.2.1 + (if eN 1 = 1 then 1 else 0))), (5, .int ((t.2.2.2.2.2.2.1) + (saM (gsS (trS σ dn t) eN sd1) (eN 1) (gN σ 8)))), (0, .ref (m)), (1, .int (nI (d))), (2, .int (nI (s))), (3, .int (w))]) dX12_daysNow_111 rfl (nI_1 _) (by decide) rfl rfl ?_
          refine g_goto C dX12_daysNow_114 (tgt := 78) (by decide) ?_
          refine q_lsub [0, 2, 1, 3, 4, 5, 6] (L' := [(6, .int (nI (k + 1))), (5, .int ((t.2.2.2.2.2.2.1) + (saM (gsS (trS σ dn t) eN sd1) (eN 1) (gN σ 8)))), (4, .int (t.2.2.2.2.2.1 + (if eN 1 = 1 then 1 else 0))), (0, .ref (m)), (1, .int (nI (d))), (2, .int (nI (s))), (3, .int (w))]) rfl ?_
          exact ih78 (k + 1) ((mmT σ dn t eN sd1)) (dn + 1) (h86) (g2) (by omega) (by omega) (by simp only [mmN]; rw [← ht]; exact (mm1_eq hex).symm) (Nat.sub_le _ _) (fun j g1_ g2_ => by have g3_ : j ≤ gN σ 3 - 1 := g2_; have q := hdr2 j g1_ g3_; show _ = nI (eN (if j < 4 then j + 1 else j)) ∧ eN (if j < 4 then j + 1 else j) < 3; rw [if_pos (by omega)]; exact q) (rfl) (hw3) (lcgN_lt _) (hM) (hR) (hO)
        · intro c100
          replace c100 := (nI_eq (a := eN 1) (b := 1) (by omega) (by omega)).mp c100
          refine g_iconst C (v := 1) dX12_daysNow_103 (by decide) rfl ?_
          refine g_goto C dX12_daysNow_104 (tgt := 108) (by decide) ?_
          refine g_iadd C dX12_daysNow_108 rfl ?_
          refine g_topi (y := t.2.2.2.2.2.1 + (if eN 1 = 1 then 1 else 0)) (by first | rw [if_pos c100] | rw [if_neg c100]) ?_
          refine g_istore C ([(4, .int (t.2.2.2.2.2.1 + (if eN 1 = 1 then 1 else 0))), (5, .int ((t.2.2.2.2.2.2.1) + (saM (gsS (trS σ dn t) eN sd1) (eN 1) (gN σ 8)))), (6, .int (nI (k))), (0, .ref (m)), (1, .int (nI (d))), (2, .int (nI (s))), (3, .int (w))]) dX12_daysNow_109 (by decide) rfl rfl ?_
          refine g_iinc C (v := nI (k + 1)) 2 ([(6, .int (nI (k + 1))), (4, .int (t.2.2.2.2.2.1 + (if eN 1 = 1 then 1 else 0))), (5, .int ((t.2.2.2.2.2.2.1) + (saM (gsS (trS σ dn t) eN sd1) (eN 1) (gN σ 8)))), (0, .ref (m)), (1, .int (nI (d))), (2, .int (nI (s))), (3, .int (w))]) dX12_daysNow_111 rfl (nI_1 _) (by decide) rfl rfl ?_
          refine g_goto C dX12_daysNow_114 (tgt := 78) (by decide) ?_
          refine q_lsub [0, 2, 1, 3, 4, 5, 6] (L' := [(6, .int (nI (k + 1))), (5, .int ((t.2.2.2.2.2.2.1) + (saM (gsS (trS σ dn t) eN sd1) (eN 1) (gN σ 8)))), (4, .int (t.2.2.2.2.2.1 + (if eN 1 = 1 then 1 else 0))), (0, .ref (m)), (1, .int (nI (d))), (2, .int (nI (s))), (3, .int (w))]) rfl ?_
          exact ih78 (k + 1) ((mmT σ dn t eN sd1)) (dn + 1) (h86) (g2) (by omega) (by omega) (by simp only [mmN]; rw [← ht]; exact (mm1_eq hex).symm) (Nat.sub_le _ _) (fun j g1_ g2_ => by have g3_ : j ≤ gN σ 3 - 1 := g2_; have q := hdr2 j g1_ g3_; show _ = nI (eN (if j < 4 then j + 1 else j)) ∧ eN (if j < 4 then j + 1 else j) < 3; rw [if_pos (by omega)]; exact q) (rfl) (hw3) (lcgN_lt _) (hM) (hR) (hO)
  have hM : MdO h49 m ((trS σ (gI σ 5) (mmN σ s 0))) (lN (mmN σ s 0).2.2.1) (gI σ 5) (nI (gN σ 6)) (nI ((mmN σ s 0).2.1)) ((mmN σ s 0).2.2.2.2.2.2.2) (s35) := hM
  have hR : MdR D h49 m ((trS σ (gI σ 5) (mmN σ s 0))) (gB σ 7) (f22) := hR
  exact loop78 _ (0) ((mmN σ s 0)) (gI σ 5) (h49) (f22) (Nat.lt_succ_self _) (Nat.zero_le _) (rfl) (Nat.zero_le _) (fun j g1_ g2_ => absurd g2_ (Nat.not_le.mpr g1_)) (rfl) (hn6) (hs) (hM) (hR) (hO)
set_option maxHeartbeats 4000000 in
set_option maxRecDepth 100000 in
theorem k_X12_days (l : Launch) (D : va_G) (b z : Nat) {h : qH} {m : Nat} {σ : sg} {s18 s35 : Int64} {s19 s20 s23 s24 : Int32} {f21 f22 : Nat → Int32} (hn0 : gN σ 0 ≤ 1) (hn6 : gN σ 6 < 3) (hn3 : gN σ 3 ≤ 4) (hIt : ∀ i, i < 9 → gA σ 2 i ≤ 10) (hn4 : gN σ 4 < 10) (hn8 : gN σ 8 ≤ 4) (hn03 : gN σ 0 = 1 ↔ 1 ≤ gN σ 3) (d s w : Int32) (hM : MdO h m (σ) (s18) (s19) (s20) (s23) (s24) (s35)) (hR : MdR D h m (σ) (f21) (f22)) : qMi l D b yX12_days cX12_days 4 .int 7 171 [.ref (m), .int (d), .int (s), .int (w)] h z (fun r0 h' => r0 = mDays σ d s w ∧ MdlAt D h' m σ ∧ ∀ q, (q < m ∨ m + 16 ≤ q) → h' q = h q) := by
  refine q_i (L := [(0, .ref (m)), (1, .int (d)), (2, .int (s)), (3, .int (w))]) (own := RX12) (by decide) rfl (Nat.le_of_ble_eq_true rfl) rfl ?_
  intro X C ret
  have hO : ∀ q, (q < m ∨ m + 16 ≤ q) → h q = h q := fun _ _ => rfl
  refine g_iload_n C 1 dX12_days_0 rfl rfl rfl ?_
  refine g_iconst C (v := 1) dX12_days_1 (by decide) rfl ?_
  refine g_bipush C (v := 30) dX12_days_2 (by decide) rfl ?_
  refine g_callSi C (As := [.int (d), .int (1), .int (30)]) (k_X12_within l D b z h (d) (1) (30)) hw_12_56 (by decide) rfl rfl (Nat.le_of_ble_eq_true rfl) ⟨Nat.zero_le _, Nat.zero_le _⟩ dX12_days_4 (pc' := 7) rfl ?_
  rintro r1 h9 ⟨⟨er, hp4⟩ | ⟨er, hp4⟩, e9⟩
  · subst h9; subst er
    have hp4 := (wit_in (lo := 1) (hi := 30) (x := d) (by decide) (by decide)).mp hp4
    have hp4_ := hp4
    obtain ⟨i, rfl, hp4a, hp4b⟩ := hp4_
    refine g_if_eq C dX12_days_7 (tgt := 23) (by decide) (pc' := 10) rfl (fun c7 => absurd c7 (by decide)) (fun _ => ?_)
    refine g_iload_n C 2 dX12_days_10 rfl rfl rfl ?_
    refine g_if_lt C dX12_days_11 (tgt := 23) (by decide) (pc' := 14) rfl ?_ ?_
    · intro c11
      refine g_bipush C (v := -102) dX12_days_23 (by decide) rfl ?_
      exact ret _ _ _ _ dX12_days_25 rfl (⟨by unfold mDays; rw [cIf_f (fun g => g.2.1 c11)], ⟨_, _, _, _, _, _, _, _, hM, hR⟩, fun _ _ => rfl⟩)
    · intro c11
      obtain ⟨sn, hsn, rfl⟩ := nI_of c11
      refine g_iload_n C 3 dX12_days_14 rfl rfl rfl ?_
      refine g_iconst C (v := 0) dX12_days_15 (by decide) rfl ?_
      refine g_iconst C (v := 3) dX12_days_16 (by decide) rfl ?_
      refine g_callSi C (As := [.int (w), .int (0), .int (3)]) (k_X12_within l D b z h (w) (0) (3)) hw_12_56 (by decide) rfl rfl (Nat.le_of_ble_eq_true rfl) ⟨Nat.zero_le _, Nat.zero_le _⟩ dX12_days_17 (pc' := 20) rfl ?_
      rintro r2 h9 ⟨⟨er, hp17⟩ | ⟨er, hp17⟩, e9⟩
      · subst h9; subst er
        have hp17 := (wit_in (lo := 0) (hi := 3) (x := w) (by decide) (by decide)).mp hp17
        have hp17_ := hp17
        obtain ⟨j, rfl, hp17a, hp17b⟩ := hp17_
        refine g_if_ne C dX12_days_20 (tgt := 26) (by decide) (pc' := 23) rfl (fun _ => ?_) (fun c20 => absurd c20 (by decide))
        refine g_aload_n C 0 dX12_days_26 rfl rfl rfl ?_
        refine gf_12_82 C (hM) (v := .int (nI (gN σ 0))) rfl dX12_days_27 rfl ?_
        refine g_if_eq C dX12_days_30 (tgt := 43) (by decide) (pc' := 33) rfl ?_ ?_
        · intro c30
          replace c30 := (nI_eq (a := gN σ 0) (b := 0) (by omega) (by omega)).mp c30
          refine g_bipush C (v := -103) dX12_days_43 (by decide) rfl ?_
          exact ret _ _ _ _ dX12_days_45 rfl (⟨by unfold mDays; rw [cIf_t ⟨hp4, c11, hp17⟩, if_pos c30], ⟨_, _, _, _, _, _, _, _, hM, hR⟩, fun _ _ => rfl⟩)
        · intro c30
          replace c30 := (not_congr (nI_eq (a := gN σ 0) (b := 0) (by omega) (by omega))).mp c30
          refine g_aload_n C 0 dX12_days_33 rfl rfl rfl ?_
          refine g_iload_n C 1 dX12_days_34 rfl rfl rfl ?_
          refine g_iload_n C 2 dX12_days_35 rfl rfl rfl ?_
          refine g_iload_n C 3 dX12_days_36 rfl rfl rfl ?_
          refine g_callVi C (As := [.int (nI (i)), .int (nI (sn)), .int (nI (j))]) (q := (RX12, TX12, 36)) (k_X12_daysNow l D b z hn0 hn6 hn3 hIt hn4 hn8 hn03 (by have := hn03; omega) (d := i) (s := sn) (by omega) (by omega) (nI j) hM hR) hw_12_208 (hM) rfl (by decide) rfl rfl (Nat.le_of_ble_eq_true rfl) ⟨Nat.zero_le _, Nat.zero_le _⟩ dX12_days_37 (pc' := 40) rfl ?_
          rintro r3 h4 ⟨er, hMd, hO⟩
          rw [er]
          refine g_goto C dX12_days_40 (tgt := 45) (by decide) ?_
          exact ret _ _ _ _ dX12_days_45 rfl (⟨by unfold mDays; rw [cIf_t ⟨hp4, c11, hp17⟩, if_neg c30, nIc (by omega), nIc (by omega)], hMd, hO⟩)
      · subst h9; subst er
        have hp17 := (not_congr (wit_in (lo := 0) (hi := 3) (x := w) (by decide) (by decide))).mp hp17
        refine g_if_ne C dX12_days_20 (tgt := 26) (by decide) (pc' := 23) rfl (fun c20 => absurd (by decide) c20) (fun _ => ?_)
        refine g_bipush C (v := -102) dX12_days_23 (by decide) rfl ?_
        exact ret _ _ _ _ dX12_days_25 rfl (⟨by unfold mDays; rw [cIf_f (fun g => hp17 g.2.2)], ⟨_, _, _, _, _, _, _, _, hM, hR⟩, fun _ _ => rfl⟩)
  · subst h9; subst er
    have hp4 := (not_congr (wit_in (lo := 1) (hi := 30) (x := d) (by decide) (by decide))).mp hp4
    refine g_if_eq C dX12_days_7 (tgt := 23) (by decide) (pc' := 10) rfl (fun _ => ?_) (fun c7 => absurd (by decide) c7)
    refine g_bipush C (v := -102) dX12_days_23 (by decide) rfl ?_
    exact ret _ _ _ _ dX12_days_25 rfl (⟨by unfold mDays; rw [cIf_f (fun g => hp4 g.1)], ⟨_, _, _, _, _, _, _, _, hM, hR⟩, fun _ _ => rfl⟩)

/-! what stays so: some way of days is possible -/
def RowT (σ : sg) : Prop := ∀ v, v < 3 → gA σ 2 (v * 3) + gA σ 2 (v * 3 + 1) + gA σ 2 (v * 3 + 2) = 10
def GoodT (σ : sg) : Prop := (gN σ 0 = 1 → RowT σ ∧ totP σ) ∧ (imK σ → totP (rsN σ))
theorem GoodT.t {σ : sg} (G : GoodT σ) : gN σ 0 = 1 → totP σ := fun h => (G.1 h).2
theorem row_ex {f : Nat → Nat} {v : Nat} (h : f (v * 3) + f (v * 3 + 1) + f (v * 3 + 2) = 10) : ∃ w, w < 3 ∧ 0 < f (v * 3 + w) := by
  by_cases h0 : 0 < f (v * 3)
  · exact ⟨0, by decide, h0⟩
  · by_cases h1 : 0 < f (v * 3 + 1)
    · exact ⟨1, by decide, h1⟩
    · exact ⟨2, by decide, by omega⟩
theorem bN_w {stp : Nat → Nat → Nat → Nat} {d v w : Nat} (hw : w < 3) (h1 : 0 < stp (6 - d) v w) (h2 : 0 < bN stp d w) : 0 < bN stp (d + 1) v := by
  have m := Nat.mul_pos h1 h2
  show 0 < stp (6 - d) v 0 * bN stp d 0 + stp (6 - d) v 1 * bN stp d 1 + stp (6 - d) v 2 * bN stp d 2
  rcases (show w = 0 ∨ w = 1 ∨ w = 2 by omega) with rfl | rfl | rfl <;> omega
theorem bN_ex {stp : Nat → Nat → Nat → Nat} {d v : Nat} (h : 0 < bN stp (d + 1) v) : ∃ w, w < 3 ∧ 0 < stp (6 - d) v w ∧ 0 < bN stp d w := by
  have h2 : 0 < stp (6 - d) v 0 * bN stp d 0 + stp (6 - d) v 1 * bN stp d 1 + stp (6 - d) v 2 * bN stp d 2 := h
  have key : ∀ a b : Nat, 0 < a * b → 0 < a ∧ 0 < b := fun a b q => ⟨Nat.pos_of_ne_zero (fun e => by rw [e, Nat.zero_mul] at q; exact absurd q (Nat.lt_irrefl _)), Nat.pos_of_ne_zero (fun e => by rw [e, Nat.mul_zero] at q; exact absurd q (Nat.lt_irrefl _))⟩
  by_cases h0 : 0 < stp (6 - d) v 0 * bN stp d 0
  · exact ⟨0, by decide, key _ _ h0⟩
  · by_cases h1 : 0 < stp (6 - d) v 1 * bN stp d 1
    · exact ⟨1, by decide, key _ _ h1⟩
    · exact ⟨2, by decide, key _ _ (by omega)⟩
theorem bN_all {stp : Nat → Nat → Nat → Nat} (d : Nat) (hd : d ≤ 6) (h : ∀ k, 6 - d < k → k ≤ 6 → ∀ v, v < 3 → ∃ w, w < 3 ∧ 0 < stp k v w) (v : Nat) (hv : v < 3) : 0 < bN stp d v := by
  induction d generalizing v with
  | zero => exact Nat.one_pos
  | succ d ih =>
    obtain ⟨w, hw, hp⟩ := h (6 - d) (by omega) (by omega) v hv
    exact bN_w hw hp (ih (by omega) (fun k g1 g2 => h k (by omega) g2) w hw)
/-- a way that is known so far, and free behind it -/
theorem bN_pre {stp : Nat → Nat → Nat → Nat} {dN : Nat → Nat} {k : Nat} (hk : k ≤ 6) (h3 : ∀ j, j ≤ k → dN j < 3) (hp : ∀ j, 1 ≤ j → j ≤ k → 0 < stp j (dN (j - 1)) (dN j)) (h : ∀ j, k < j → j ≤ 6 → ∀ v, v < 3 → ∃ w, w < 3 ∧ 0 < stp j v w) : 0 < bN stp 6 (dN 0) := by
  have key : ∀ i, i ≤ k → 0 < bN stp (6 - (k - i)) (dN (k - i)) := by
    intro i hi
    induction i with
    | zero => exact bN_all _ (by omega) (fun j g1 g2 => h j (by omega) g2) _ (h3 _ (by omega))
    | succ i ih =>
      have := ih (by omega)
      have e : 6 - (k - (i + 1)) = (6 - (k - i)) + 1 := by omega
      rw [e]
      refine bN_w (h3 (k - i) (by omega)) ?_ this
      have p := hp (k - i) (by omega) (by omega)
      rw [show 6 - (6 - (k - i)) = k - i by omega, show k - (i + 1) = k - i - 1 by omega]
      exact p
  have := key k (Nat.le_refl _)
  rw [Nat.sub_self] at this
  exact this
theorem bN_shift {s1 s2 : Nat → Nat → Nat → Nat} (hs : ∀ k, 1 ≤ k → k ≤ 5 → s2 k = s1 (k + 1)) (h6 : ∀ v, v < 3 → ∃ w, w < 3 ∧ 0 < s2 6 v w) (d : Nat) (hd : d ≤ 5) (v : Nat) (hv : v < 3) (h : 0 < bN s1 d v) : 0 < bN s2 (d + 1) v := by
  induction d generalizing v with
  | zero =>
    obtain ⟨w, hw, hp⟩ := h6 v hv
    exact bN_w (d := 0) hw hp Nat.one_pos
  | succ d ih =>
    obtain ⟨w, hw, h1, h2⟩ := bN_ex h
    refine bN_w hw ?_ (ih (by omega) w hw h2)
    rw [hs (6 - (d + 1)) (by omega) (by omega), show 6 - (d + 1) + 1 = 6 - d by omega]
    exact h1
theorem fit_m1 (s w : Nat) : fitN s (-1) w = 1 := rfl
theorem sp_row {σ : sg} (R : RowT σ) {k : Nat} (hk : F_rdg (gB σ 7) k = -1) {v : Nat} (hv : v < 3) : ∃ w, w < 3 ∧ 0 < spN σ k v w := by
  obtain ⟨w, hw, hp⟩ := row_ex (f := gA σ 2) (R v hv)
  refine ⟨w, hw, ?_⟩
  unfold spN
  rw [hk, fit_m1, Nat.mul_one]
  exact hp
theorem F_rdg_no {rd : Nat → Int32} {k : Nat} (h : 4 < k) : F_rdg rd k = -1 := by unfold F_rdg; rw [if_neg (by omega)]
theorem F_rdg_y {rd : Nat → Int32} {k : Nat} (h1 : 1 ≤ k) (h : k ≤ 4) : F_rdg rd k = rd k := by unfold F_rdg; rw [if_pos ⟨h1, h⟩]
/-! the writers -/
theorem st_row {σ : sg} (h : ∀ j, j < 14 → mgP σ j) : RowT (stN σ) := by
  have hp := (pg_all 14).mpr h
  intro v hv
  show dgt (gB σ 17 (v * 3 / 3 * 4 + v * 3 % 3)) + dgt (gB σ 17 ((v * 3 + 1) / 3 * 4 + (v * 3 + 1) % 3)) + dgt (gB σ 17 ((v * 3 + 2) / 3 * 4 + (v * 3 + 2) % 3)) = 10
  rw [show v * 3 / 3 * 4 + v * 3 % 3 = v * 4 by omega, show (v * 3 + 1) / 3 * 4 + (v * 3 + 1) % 3 = v * 4 + 1 by omega, show (v * 3 + 2) / 3 * 4 + (v * 3 + 2) % 3 = v * 4 + 2 by omega]
  have d0 := pgT hp (v := v) (w := 0) hv (by decide)
  have d1 := pgT hp (v := v) (w := 1) hv (by decide)
  have d2 := pgT hp (v := v) (w := 2) hv (by decide)
  rw [Nat.add_zero] at d0
  have n0 : ¬ F_dg (gB σ 17 (v * 4)) = -1 := by rw [d0.1]; exact nI_nm1 (by omega)
  have n1 : ¬ F_dg (gB σ 17 (v * 4 + 1)) = -1 := by rw [d1.1]; exact nI_nm1 (by omega)
  have n2 : ¬ F_dg (gB σ 17 (v * 4 + 2)) = -1 := by rw [d2.1]; exact nI_nm1 (by omega)
  have g := hp (v * 4 + 2) (by omega)
  unfold pgG at g
  rw [if_neg (by omega), if_neg (by omega), if_neg (by omega), if_neg (by omega), if_neg (by omega), show v * 4 + 2 - (v * 4 + 2) % 4 = v * 4 by omega, show (v * 4 + 2) % 4 = 2 by omega] at g
  have s := ((gt2 (dg_in.mp n0) (dg_in.mp n1)).mp g).2
  rw [← dg_fg n0, ← dg_fg n1, ← dg_fg n2, d0.1, d1.1, d2.1, nI_add, nI_add] at s
  exact nIinj (b := 10) (by omega) (by decide) s
theorem good_station {σ : sg} (I : InS σ) (G : GoodT σ) : GoodT (mStation σ).2 := by
  unfold mStation
  by_cases h : gN σ 16 = 14 ∧ ∀ j, j < 14 → mgP σ j
  · rw [cIf_t h]
    have R := st_row h.2
    refine ⟨fun _ => ⟨R, ?_⟩, fun k => ?_⟩
    · refine bN_all 6 (Nat.le_refl _) (fun k g1 g2 v hv => sp_row R ?_ hv) 0 (by decide)
      show F_rdg (fun _ => -1) k = -1
      unfold F_rdg; split <;> rfl
    · have k2 : gN σ 26 = gN σ 1 + 1 := k.2
      have := I.2.2.2.2.2.2.2.2.2.2.2.2.2.1
      omega
  · rw [cIf_f h]; exact G
theorem good_reading {σ : sg} (I : InS σ) (G : GoodT σ) (v : Int32) : GoodT (mReading σ v).2 := by
  unfold mReading
  by_cases h : inP 0 2 v
  · rw [cIf_t h]
    by_cases g : gN σ 0 = 0
    · rw [if_pos g]; exact G
    · rw [if_neg g]
      have H := I.sgn.b7 (upR σ v)
      by_cases z : wgC (uB σ 7 (upR σ v)) 1 (-1) = 0
      · rw [if_pos z]; exact G
      · rw [if_neg z]
        refine ⟨fun q => ⟨(G.1 q).1, ?_⟩, G.2⟩
        have w := H.wle 1 (-1)
        rw [wgC_N H.1 H.2.1 H.2.2] at z
        have z2 : ¬ wgN (uB σ 7 (upR σ v)) 1 (-1) = 0 := fun e => z ((lN_z (by omega)).mpr e)
        rw [wgN_all] at z2
        exact Nat.pos_of_ne_zero z2
  · rw [cIf_f h]; exact G
theorem sp_shift (σ : sg) (w : Nat) {k : Nat} (h1 : 1 ≤ k) (h5 : k ≤ 5) : spN (dyM σ w) k = spN σ (k + 1) := by
  funext v x
  have e : F_rdg (shR (gB σ 7)) k = F_rdg (gB σ 7) (k + 1) := by
    by_cases g : k = 5
    · subst g; rfl
    · rw [F_rdg_y h1 (by omega)]
      by_cases g4 : k = 4
      · subst g4; rfl
      · rw [F_rdg_y (by omega) (by omega)]
        rcases (show k = 1 ∨ k = 2 ∨ k = 3 by omega) with rfl | rfl | rfl <;> rfl
  show gA σ 2 (v * 3 + x) * fitN (gN σ 4) (F_rdg (shR (gB σ 7)) k) x = _
  rw [e]
  rfl
theorem good_day {σ : sg} (I : InS σ) (G : GoodT σ) (v : Int32) : GoodT (mDay σ v).2 := by
  unfold mDay
  by_cases h : inP 0 2 v
  · rw [cIf_t h]
    by_cases g : gN σ 0 = 0
    · rw [if_pos g]; exact G
    · rw [if_neg g]
      by_cases z : wgC σ 1 v = 0
      · rw [if_pos z]; exact G
      · rw [if_neg z]
        obtain ⟨j, rfl, -, hj⟩ := h
        have H := I.sgn
        have w := H.wle 1 (nI j)
        have R := (G.1 (I.one g)).1
        rw [wgC_N H.1 H.2.1 H.2.2] at z
        have z2 : ¬ wgN σ 1 (nI j) = 0 := fun e => z ((lN_z (by omega)).mpr e)
        rw [wgN_one H.1 (by decide) (by decide) (by omega)] at z2
        have z3 : 0 < bN (spN σ) 5 j := Nat.pos_of_ne_zero (fun e => z2 (by rw [show (6 - 1 : Nat) = 5 from rfl, e, Nat.mul_zero]))
        rw [nIc (by omega)]
        refine ⟨fun q => ⟨R, ?_⟩, G.2⟩
        exact bN_shift (s1 := spN σ) (s2 := spN (dyM σ j)) (fun k h1 h5 => sp_shift σ j h1 h5) (fun u hu => sp_row (σ := dyM σ j) R (F_rdg_no (by decide)) hu) 5 (by decide) j (by omega) z3
  · rw [cIf_f h]; exact G
theorem good_image {σ : sg} (I : InS σ) (G : GoodT σ) : GoodT (mImage σ).2 := by
  unfold mImage
  by_cases g : gN σ 0 = 0
  · rw [if_pos g]; exact G
  · rw [if_neg g]
    exact ⟨G.1, fun _ => (G.1 (I.one g)).2⟩
theorem good_restore {σ : sg} (I : InS σ) (G : GoodT σ) : GoodT (oRestore σ).2 := by
  unfold oRestore
  by_cases k : imK σ
  · rw [cIf_t k]
    have g1 := (I.2.2.2.2.2.2.2.2.2.2.2.1 k).1
    exact ⟨fun _ => ⟨(G.1 g1).1, G.2 k⟩, fun _ => G.2 k⟩
  · rw [cIf_f k]; exact G
theorem good_letter {σ : sg} (G : GoodT σ) (c : Int32) : GoodT (oLetter σ c).2 := by
  unfold oLetter
  split
  · split
    · exact G
    · exact G
  · exact G
theorem good_blank {σ : sg} (G : GoodT σ) : GoodT (oBlank σ).2 := G
theorem good_forget {σ : sg} (G : GoodT σ) : GoodT (oForget σ).2 := G
theorem good_book {σ : sg} (G : GoodT σ) (v w : Int32) : GoodT (oBook σ v w).2 := by
  unfold oBook
  by_cases h : inP 0 2 v ∧ (w = -1 ∨ inP 0 2 w)
  · rw [cIf_t h]
    split
    · exact G
    · exact G
  · rw [cIf_f h]; exact G
theorem good_person {σ : sg} (G : GoodT σ) (k c t : Int32) : GoodT (oPerson σ k c t).2 := by
  unfold oPerson
  by_cases h : inP 0 4 k ∧ inP 1 9 c ∧ inP 1 9 t
  · rw [cIf_t h]
    split
    · split
      · exact G
      · exact G
    · exact G
  · rw [cIf_f h]; exact G
theorem good_0 : GoodT sg0 := ⟨fun g => absurd (show (0 : Nat) = 1 from g) (by decide), fun k => absurd (show (0 : Nat) = 1 from k.1) (by decide)⟩
/-! days by a seed: the same -/
def SimI (σ : sg) (t : smT) : Prop := t.1 0 = t.2.2.2.2.1 ∧ (∀ j, j ≤ t.2.1 → t.1 j < 3) ∧ t.2.1 + 1 ≤ gN σ 3 ∧ (∀ j, 1 ≤ j → j ≤ t.2.1 → 0 < gA σ 2 (t.1 (j - 1) * 3 + t.1 j) ∧ 0 < fitN (gN σ 4) (t.2.2.2.1 j) (t.1 j)) ∧ ∀ j, t.2.1 < j → j ≤ 4 → t.2.2.2.1 j = -1
theorem dw_pos {σ : sg} (R : RowT σ) {v d : Nat} (hv : v < 3) (hd : d < 10) : 0 < gA σ 2 (v * 3 + dwN (gA σ 2) v d) := by
  have r := R v hv
  unfold dwN
  by_cases h0 : d < gA σ 2 (v * 3)
  · rw [if_pos h0, Nat.add_zero]; omega
  · rw [if_neg h0]
    by_cases h1 : d < gA σ 2 (v * 3) + gA σ 2 (v * 3 + 1)
    · rw [if_pos h1]; omega
    · rw [if_neg h1]; omega
theorem ex_pos {σ : sg} (R : RowT σ) {d0 : Nat → Nat} {da sd : Nat} (h3 : ∀ j, j ≤ da → d0 j < 3) (hp : ∀ j, 1 ≤ j → j ≤ da → 0 < gA σ 2 (d0 (j - 1) * 3 + d0 j)) (k : Nat) : (∀ j, j ≤ da → (exS (gA σ 2) (d0, da, sd) k).1 j = d0 j) ∧ (∀ j, j ≤ max da k → (exS (gA σ 2) (d0, da, sd) k).1 j < 3) ∧ ∀ j, 1 ≤ j → j ≤ max da k → 0 < gA σ 2 ((exS (gA σ 2) (d0, da, sd) k).1 (j - 1) * 3 + (exS (gA σ 2) (d0, da, sd) k).1 j) := by
  induction k with
  | zero => exact ⟨fun j _ => rfl, fun j hj => h3 j (by omega), fun j h1 hj => hp j h1 (by omega)⟩
  | succ k ih =>
    obtain ⟨a1, a2, a3⟩ := ih
    have m := exS_max (gA σ 2) (d0, da, sd) k
    simp only at m
    simp only [exS]
    generalize exS (gA σ 2) (d0, da, sd) k = E at *
    by_cases g : k + 1 ≤ E.2.1
    · rw [if_pos g]
      exact ⟨a1, fun j hj => a2 j (by omega), fun j h1 hj => a3 j h1 (by omega)⟩
    · rw [if_neg g]
      have w := dwN_lt (gA σ 2) (E.1 k) (drN (lcgN E.2.2))
      refine ⟨fun j hj => ?_, fun j hj => ?_, fun j h1 hj => ?_⟩
      · show va_up E.1 (k + 1) _ j = _
        simp only [va_up]; rw [if_neg (by omega)]; exact a1 j hj
      · show va_up E.1 (k + 1) _ j < 3
        simp only [va_up]
        by_cases e : j = k + 1
        · rw [if_pos e]; exact w
        · rw [if_neg e]; exact a2 j (by omega)
      · show 0 < gA σ 2 (va_up E.1 (k + 1) _ (j - 1) * 3 + va_up E.1 (k + 1) _ j)
        simp only [va_up]
        rw [if_neg (show ¬ j - 1 = k + 1 by omega)]
        by_cases e : j = k + 1
        · rw [if_pos e, show j - 1 = k by omega]
          exact dw_pos R (a2 k (by omega)) (drN_lt _)
        · rw [if_neg e]; exact a3 j h1 (by omega)
theorem sim_Q {σ : sg} {t : smT} (S : SimI σ t) (R : RowT σ) : (smQ σ t).2.1 = gN σ 3 ∧ (smQ σ t).1 0 = t.2.2.2.2.1 ∧ (∀ j, j ≤ t.2.1 → (smQ σ t).1 j = t.1 j) ∧ (∀ j, j ≤ gN σ 3 → (smQ σ t).1 j < 3) ∧ ∀ j, 1 ≤ j → j ≤ gN σ 3 → 0 < gA σ 2 ((smQ σ t).1 (j - 1) * 3 + (smQ σ t).1 j) := by
  obtain ⟨s0, s3, se, sp, sn⟩ := S
  have m := exS_max (gA σ 2) (t.1, t.2.1, t.2.2.1) (gN σ 3)
  obtain ⟨a1, a2, a3⟩ := ex_pos (sd := t.2.2.1) R s3 (fun j h1 h2 => (sp j h1 h2).1) (gN σ 3)
  simp only at m
  have mx : max t.2.1 (gN σ 3) = gN σ 3 := by omega
  rw [mx] at m a2 a3
  exact ⟨m, (a1 0 (Nat.zero_le _)).trans s0, a1, a2, a3⟩
theorem fit_y {s x d : Nat} (hs : s < 10) (hx : x < 3) : 0 < fitN s (nI (if d < s then (x + 1) % 3 else x)) x := by
  unfold fitN
  by_cases g : d < s
  · rw [if_pos g, if_neg (nI_nm1 (by omega)), if_neg (fun e => by have := nIinj (by omega) (by omega) e; omega), if_pos rfl]; omega
  · rw [if_neg g, if_neg (nI_nm1 (by omega)), if_pos rfl]; omega
theorem sim_fit {σ : sg} {t : smT} (S : SimI σ t) (R : RowT σ) (h4 : gN σ 4 < 10) (h34 : gN σ 3 ≤ 4) {j : Nat} (h1 : 1 ≤ j) (hj : j ≤ gN σ 3) : 0 < fitN (gN σ 4) (smU σ t j) ((smQ σ t).1 j) := by
  obtain ⟨q1, q0, qa, q3, qp⟩ := sim_Q S R
  obtain ⟨s0, s3, se, sp, sn⟩ := S
  unfold smU
  by_cases e : j = gN σ 3
  · simp only [upd]
    rw [if_pos e, e]
    unfold smY
    have key := fit_y (s := gN σ 4) (x := (smQ σ t).1 (gN σ 3)) (d := drN (lcgN (smQ σ t).2.2)) h4 (q3 _ (Nat.le_refl _))
    exact key
  · simp only [upd]
    rw [if_neg e]
    by_cases g : j ≤ t.2.1
    · rw [qa j g]; exact (sp j h1 g).2
    · by_cases g4 : j ≤ 4
      · rw [sn j (by omega) g4, fit_m1]; exact Nat.one_pos
      · omega
theorem psF_sa {τ : sg} {np w : Nat} {cov : Nat → Prop} {co lo : Nat → Int32} (hc : ∀ i, i < np → (cov i ↔ mcS τ i)) (h10 : co = gB τ 10) (h11 : lo = gB τ 11) (pd : Int32) (n : Nat) : psF np cov co lo (nI w) pd n = pd + saM τ w (min n np) := by
  induction n with
  | zero => simp [psF, saM]
  | succ n ih =>
    simp only [psF]
    rw [ih]
    by_cases g : n < np
    · rw [if_pos g, show min (n + 1) np = min n np + 1 by omega]
      simp only [saM]
      rw [show min n np = n by omega, Int32.add_assoc]
      unfold mdV
      rw [propext (hc n g), h10, h11]
    · rw [if_neg g, show min (n + 1) np = min n np by omega, Int32.add_zero]
theorem sim_U {σ : sg} {t : smT} (S : SimI σ t) {j : Nat} (hj : gN σ 3 < j) : F_rdg (smU σ t) j = -1 := by
  obtain ⟨s0, s3, se, sp, sn⟩ := S
  by_cases g : 4 < j
  · exact F_rdg_no g
  · rw [F_rdg_y (by omega) (by omega)]
    unfold smU
    simp only [upd]
    rw [if_neg (by omega)]
    exact sn j (by omega) (by omega)
theorem sim_tot {σ : sg} {t : smT} (S : SimI σ t) (R : RowT σ) (h4 : gN σ 4 < 10) (h34 : gN σ 3 ≤ 4) : totP (mmG σ t) := by
  obtain ⟨q1, q0, qa, q3, qp⟩ := sim_Q S R
  have key := bN_pre (stp := spN (mmG σ t)) (dN := (smQ σ t).1) (k := gN σ 3) (by omega) q3 (fun j h1 hj => ?_) (fun j h1 h6 v hv => sp_row (σ := mmG σ t) R (sim_U S h1) hv)
  · rw [q0] at key; exact key
  · show 0 < gA σ 2 ((smQ σ t).1 (j - 1) * 3 + (smQ σ t).1 j) * fitN (gN σ 4) (F_rdg (smU σ t) j) ((smQ σ t).1 j)
    rw [F_rdg_y h1 (by omega)]
    exact Nat.mul_pos (qp j h1 hj) (sim_fit S R h4 h34 h1 hj)
theorem shR_y {rd : Nat → Int32} {j : Nat} (h1 : 1 ≤ j) (h : j ≤ 3) : shR rd j = rd (j + 1) := by
  rcases (show j = 1 ∨ j = 2 ∨ j = 3 by omega) with rfl | rfl | rfl <;> rfl
theorem sim_next {σ : sg} {t : smT} (S : SimI σ t) (R : RowT σ) (h4 : gN σ 4 < 10) (h34 : gN σ 3 ≤ 4) (h31 : 1 ≤ gN σ 3) : SimI σ (mm1 σ t) := by
  obtain ⟨q1, q0, qa, q3, qp⟩ := sim_Q S R
  have e1 : ∀ j, j < 4 → (mm1 σ t).1 j = (smQ σ t).1 (j + 1) := fun j hj => by show (smQ σ t).1 (if j < 4 then j + 1 else j) = _; rw [if_pos hj]
  have e2 : (mm1 σ t).2.1 = gN σ 3 - 1 := by show (smQ σ t).2.1 - 1 = _; rw [q1]
  refine ⟨e1 0 (by decide), fun j hj => ?_, by rw [e2]; omega, fun j h1 hj => ?_, fun j h1 h4 => ?_⟩
  · rw [e2] at hj; rw [e1 j (by omega)]; exact q3 _ (by omega)
  · rw [e2] at hj
    rw [e1 j (by omega), e1 (j - 1) (by omega), show j - 1 + 1 = j by omega]
    refine ⟨qp (j + 1) (by omega) (by omega), ?_⟩
    show 0 < fitN (gN σ 4) (shR (smU σ t) j) _
    rw [shR_y h1 (by omega)]
    exact sim_fit S R h4 h34 (by omega) (by omega)
  · rw [e2] at h1
    show shR (smU σ t) j = -1
    by_cases g : j = 4
    · rw [g]; rfl
    · rw [shR_y (by omega) (by omega), ← F_rdg_y (rd := smU σ t) (by omega) (by omega)]
      exact sim_U S (by omega)
theorem sim_0 {σ : sg} (h6 : gN σ 6 < 3) (h31 : 1 ≤ gN σ 3) (s : Nat) : SimI σ (mmN σ s 0) := ⟨rfl, fun _ _ => h6, h31, fun j h1 hj => absurd (show j ≤ 0 from hj) (by omega), fun _ _ _ => rfl⟩
theorem sim_eq {σ : sg} {t : smT} (I : InS σ) (S : SimI σ t) (R : RowT σ) (h31 : 1 ≤ gN σ 3) : sm1 σ t = mm1 σ t := by
  have H := I.sgn
  have h34 := I.2.1
  have h8 := I.2.2.2.2.2.1
  have T := sim_tot S R H.2.1 h34
  obtain ⟨q1, q0, qa, q3, qp⟩ := sim_Q S R
  have w3 : t.2.2.2.2.1 < 3 := by rw [← q0]; exact q3 0 (Nat.zero_le _)
  have H2 : SgN (mmG σ t) := ⟨w3, H.2.1, H.2.2⟩
  have ea : allF (F_step (tnS σ) (nI (gN σ 4)) (smU σ t)) t.2.2.2.2.1 = lN (wgN (mmG σ t) 1 (-1)) := allF_N H2 1
  have wl := H2.wle 1 (-1)
  have wp := T.w 1
  have eR : smR σ t = smU σ t := by
    unfold smR
    rw [ea, if_neg (fun q => by have := (lN_pos (by omega)).mp q; omega)]
  have eC : ∀ i, i < gN σ 8 → (smC σ t i ↔ mcS (mmG σ t) i) := fun i hi => by
    unfold smC
    rw [eR]
    exact eCov (σ := mmG σ t) H2 T (I.k9 hi)
  have eP : psF (gN σ 8) (smC σ t) (gB σ 10) (gB σ 11) (nI ((smQ σ t).1 1)) t.2.2.2.2.2.2.1 4 = t.2.2.2.2.2.2.1 + saM (mmG σ t) ((smQ σ t).1 1) (gN σ 8) := by
    rw [psF_sa (τ := mmG σ t) (co := gB σ 10) (lo := gB σ 11) eC rfl rfl, show min 4 (gN σ 8) = gN σ 8 by omega]
  unfold sm1 mm1
  rw [eR, eP]
theorem sim_all {σ : sg} (I : InS σ) (R : RowT σ) (h31 : 1 ≤ gN σ 3) (s k : Nat) : smN σ s k = mmN σ s k ∧ SimI σ (mmN σ s k) := by
  induction k with
  | zero => exact ⟨rfl, sim_0 I.sgn.1 h31 s⟩
  | succ k ih =>
    obtain ⟨e, S⟩ := ih
    refine ⟨?_, sim_next S R I.sgn.2.1 I.2.1 h31⟩
    simp only [smN, mmN]
    rw [e, sim_eq I S R h31]
theorem eDays {σ : sg} (I : InS σ) (G : GoodT σ) (d s w : Int32) : cDays σ d s w = mDays σ d s w := by
  unfold cDays mDays
  rw [I.if3]
  by_cases g : gN σ 0 = 0
  · rw [if_pos g, if_pos g]
  · rw [if_neg g, if_neg g, (sim_all I (G.1 (I.one g)).1 (I.2.2.1.mp (I.one g)) _ _).1]

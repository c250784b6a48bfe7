/-! what is written is the model's too; the digest -/
theorem cIf_iff {α : Type} {P Q : Prop} (h : P ↔ Q) (x y : α) : cIf P x y = cIf Q x y := by rw [propext h]
theorem dg_eq {c : Int32} (h : ¬ F_dg c = -1) : F_dg c = c - 48 := by
  unfold F_dg at h ⊢
  by_cases h1 : c < 48
  · rw [if_pos h1] at h; exact absurd rfl h
  · rw [if_neg h1] at h ⊢
    by_cases h2 : 57 < c
    · rw [if_pos h2] at h; exact absurd rfl h
    · rw [if_neg h2]
theorem fg_dg {σ : sg} {k : Nat} (h : inP 0 9 (fgM σ k)) : F_dg (gB σ 17 k) = fgM σ k := by
  obtain ⟨j, hj, -, hj9⟩ := h
  unfold fgM at hj ⊢
  have e1 : gB σ 17 k = nI (j + 48) := by
    have : gB σ 17 k - 48 + 48 = nI j + 48 := by rw [hj]
    rw [Int32.sub_add_cancel] at this
    exact this.trans (nI_add j 48)
  rw [e1]
  unfold F_dg
  rw [if_neg (fun g => by have := (nI_ltI (a := j + 48) (b := 48) (by omega) (by decide)).mp g; omega), if_neg (fun g => by have := (nI_ltI (a := 57) (b := j + 48) (by decide) (by omega)).mp g; omega)]
theorem dg_in {σ : sg} {k : Nat} : ¬ F_dg (gB σ 17 k) = -1 ↔ inP 0 9 (fgM σ k) := by
  constructor
  · intro h
    have e := F_dg_dgt h
    have e2 := dg_eq h
    exact ⟨dgt (gB σ 17 k), e2.symm.trans e.1, Nat.zero_le _, e.2⟩
  · intro h
    rw [fg_dg h]
    obtain ⟨j, hj, -, hj9⟩ := h
    rw [hj]
    exact nI_nm1 (by omega)
theorem dg_fg {σ : sg} {k : Nat} (h : ¬ F_dg (gB σ 17 k) = -1) : F_dg (gB σ 17 k) = fgM σ k := fg_dg (dg_in.mp h)
theorem gt0 {σ : sg} (q : Nat) : gtP (gB σ 17) q 0 ↔ inP 0 9 (fgM σ q) := by
  rw [← dg_in]
  constructor
  · intro h; exact h.1 0 (Nat.le_refl _)
  · intro h
    refine ⟨fun j hj => by rw [show j = 0 by omega]; exact h, ?_⟩
    rw [if_neg (by decide)]
    have e := F_dg_dgt h
    show ¬ 10 < 0 + F_dg (gB σ 17 (q + 0))
    rw [Nat.add_zero, e.1, Int32.zero_add]
    intro g
    have := (nI_ltI (a := 10) (b := dgt (gB σ 17 q)) (by decide) (by omega)).mp g
    omega
theorem gt1 {σ : sg} {q : Nat} (h0 : inP 0 9 (fgM σ q)) : gtP (gB σ 17) q 1 ↔ (inP 0 9 (fgM σ (q + 1)) ∧ ¬ 10 < fgM σ q + fgM σ (q + 1)) := by
  have d0 := dg_in.mpr h0
  have e : tsum (gB σ 17) q (1 + 1) = F_dg (gB σ 17 q) + F_dg (gB σ 17 (q + 1)) := by
    show 0 + F_dg (gB σ 17 (q + 0)) + F_dg (gB σ 17 (q + 1)) = _
    rw [Nat.add_zero, Int32.zero_add]
  constructor
  · intro ⟨h1, h2⟩
    have d1 := h1 1 (Nat.le_refl _)
    rw [if_neg (by decide), e, dg_fg d0, dg_fg d1] at h2
    exact ⟨dg_in.mp d1, h2⟩
  · intro ⟨h1, h2⟩
    have d1 := dg_in.mpr h1
    refine ⟨fun j hj => ?_, ?_⟩
    · rcases (show j = 0 ∨ j = 1 by omega) with rfl | rfl
      · exact d0
      · exact d1
    · rw [if_neg (by decide), e, dg_fg d0, dg_fg d1]; exact h2
theorem gt2 {σ : sg} {q : Nat} (h0 : inP 0 9 (fgM σ q)) (h1 : inP 0 9 (fgM σ (q + 1))) : gtP (gB σ 17) q 2 ↔ (inP 0 9 (fgM σ (q + 2)) ∧ fgM σ q + fgM σ (q + 1) + fgM σ (q + 2) = 10) := by
  have d0 := dg_in.mpr h0
  have d1 := dg_in.mpr h1
  have e : tsum (gB σ 17) q (2 + 1) = F_dg (gB σ 17 q) + F_dg (gB σ 17 (q + 1)) + F_dg (gB σ 17 (q + 2)) := by
    show 0 + F_dg (gB σ 17 (q + 0)) + F_dg (gB σ 17 (q + 1)) + F_dg (gB σ 17 (q + 2)) = _
    rw [Nat.add_zero, Int32.zero_add]
  constructor
  · intro ⟨h2, h3⟩
    have d2 := h2 2 (Nat.le_refl _)
    rw [if_pos rfl, e, dg_fg d0, dg_fg d1, dg_fg d2] at h3
    exact ⟨dg_in.mp d2, h3⟩
  · intro ⟨h2, h3⟩
    have d2 := dg_in.mpr h2
    refine ⟨fun j hj => ?_, ?_⟩
    · rcases (show j = 0 ∨ j = 1 ∨ j = 2 by omega) with rfl | rfl | rfl
      · exact d0
      · exact d1
      · exact d2
    · rw [if_pos rfl, e, dg_fg d0, dg_fg d1, dg_fg d2]; exact h3
theorem pg12i {σ : sg} : pgG (gB σ 17) 12 ↔ inP 1 4 (fgM σ 12) := by
  constructor
  · intro h
    obtain ⟨e, h1, h4⟩ := pg12 h
    have n1 : ¬ F_dg (gB σ 17 12) = -1 := by rw [e]; exact nI_nm1 (by omega)
    exact ⟨dgt (gB σ 17 12), (dg_fg n1).symm.trans e, h1, h4⟩
  · intro ⟨j, hj, h1, h4⟩
    have e := fg_dg (σ := σ) (k := 12) ⟨j, hj, by omega, by omega⟩
    show ¬ F_dg (gB σ 17 12) < 1 ∧ ¬ 4 < F_dg (gB σ 17 12)
    rw [e, hj]
    exact ⟨fun g => by have := (nI_ltI (a := j) (b := 1) (by omega) (by decide)).mp g; omega, fun g => by have := (nI_ltI (a := 4) (b := j) (by decide) (by omega)).mp g; omega⟩
theorem i0 {σ : sg} (h : ∀ j, j < 0 → pgG (gB σ 17) j) : pgG (gB σ 17) 0 ↔ mgP σ 0 := by
  unfold pgG mgP
  rw [if_neg (by decide), if_neg (by decide), if_neg (by decide), if_neg (by decide), if_neg (by decide), if_pos (by decide), if_pos (by decide)]
  exact gt0 0
theorem m0 {σ : sg} (h : pgG (gB σ 17) 0) : inP 0 9 (fgM σ 0) := by
  unfold pgG at h
  rw [if_neg (by decide), if_neg (by decide), if_neg (by decide), if_neg (by decide), if_neg (by decide)] at h
  exact (gt0 0).mp h
theorem i1 {σ : sg} (h : ∀ j, j < 1 → pgG (gB σ 17) j) : pgG (gB σ 17) 1 ↔ mgP σ 1 := by
  have q0 := m0 (h 0 (by decide))
  unfold pgG mgP
  rw [if_neg (by decide), if_neg (by decide), if_neg (by decide), if_neg (by decide), if_neg (by decide), if_pos (by decide), if_neg (by decide), if_pos (by decide)]
  exact gt1 q0
theorem m1 {σ : sg} (h : ∀ j, j < 1 → pgG (gB σ 17) j) (h2 : pgG (gB σ 17) 1) : inP 0 9 (fgM σ 1) := by
  have q0 := m0 (h 0 (by decide))
  unfold pgG at h2
  rw [if_neg (by decide), if_neg (by decide), if_neg (by decide), if_neg (by decide), if_neg (by decide)] at h2
  exact ((gt1 q0).mp h2).1
theorem i2 {σ : sg} (h : ∀ j, j < 2 → pgG (gB σ 17) j) : pgG (gB σ 17) 2 ↔ mgP σ 2 := by
  have q0 := m0 (h 0 (by decide))
  have q1 := m1 (fun j hj => h j (Nat.lt_succ_of_lt hj)) (h 1 (by decide))
  unfold pgG mgP
  rw [if_neg (by decide), if_neg (by decide), if_neg (by decide), if_neg (by decide), if_neg (by decide), if_pos (by decide), if_neg (by decide), if_neg (by decide), if_pos (by decide)]
  exact gt2 q0 q1
theorem i3 {σ : sg} (h : ∀ j, j < 3 → pgG (gB σ 17) j) : pgG (gB σ 17) 3 ↔ mgP σ 3 := by
  unfold pgG mgP
  rw [if_neg (by decide), if_neg (by decide), if_neg (by decide), if_neg (by decide), if_pos (by decide), if_pos (by decide), if_neg (by decide), if_neg (by decide), if_neg (by decide), if_neg (by decide)]
theorem i4 {σ : sg} (h : ∀ j, j < 4 → pgG (gB σ 17) j) : pgG (gB σ 17) 4 ↔ mgP σ 4 := by
  unfold pgG mgP
  rw [if_neg (by decide), if_neg (by decide), if_neg (by decide), if_neg (by decide), if_neg (by decide), if_pos (by decide), if_pos (by decide)]
  exact gt0 4
theorem m4 {σ : sg} (h : pgG (gB σ 17) 4) : inP 0 9 (fgM σ 4) := by
  unfold pgG at h
  rw [if_neg (by decide), if_neg (by decide), if_neg (by decide), if_neg (by decide), if_neg (by decide)] at h
  exact (gt0 4).mp h
theorem i5 {σ : sg} (h : ∀ j, j < 5 → pgG (gB σ 17) j) : pgG (gB σ 17) 5 ↔ mgP σ 5 := by
  have q0 := m4 (h 4 (by decide))
  unfold pgG mgP
  rw [if_neg (by decide), if_neg (by decide), if_neg (by decide), if_neg (by decide), if_neg (by decide), if_pos (by decide), if_neg (by decide), if_pos (by decide)]
  exact gt1 q0
theorem m5 {σ : sg} (h : ∀ j, j < 5 → pgG (gB σ 17) j) (h2 : pgG (gB σ 17) 5) : inP 0 9 (fgM σ 5) := by
  have q0 := m4 (h 4 (by decide))
  unfold pgG at h2
  rw [if_neg (by decide), if_neg (by decide), if_neg (by decide), if_neg (by decide), if_neg (by decide)] at h2
  exact ((gt1 q0).mp h2).1
theorem i6 {σ : sg} (h : ∀ j, j < 6 → pgG (gB σ 17) j) : pgG (gB σ 17) 6 ↔ mgP σ 6 := by
  have q0 := m4 (h 4 (by decide))
  have q1 := m5 (fun j hj => h j (Nat.lt_succ_of_lt hj)) (h 5 (by decide))
  unfold pgG mgP
  rw [if_neg (by decide), if_neg (by decide), if_neg (by decide), if_neg (by decide), if_neg (by decide), if_pos (by decide), if_neg (by decide), if_neg (by decide), if_pos (by decide)]
  exact gt2 q0 q1
theorem i7 {σ : sg} (h : ∀ j, j < 7 → pgG (gB σ 17) j) : pgG (gB σ 17) 7 ↔ mgP σ 7 := by
  unfold pgG mgP
  rw [if_neg (by decide), if_neg (by decide), if_neg (by decide), if_neg (by decide), if_pos (by decide), if_pos (by decide), if_neg (by decide), if_neg (by decide), if_neg (by decide), if_neg (by decide)]
theorem i8 {σ : sg} (h : ∀ j, j < 8 → pgG (gB σ 17) j) : pgG (gB σ 17) 8 ↔ mgP σ 8 := by
  unfold pgG mgP
  rw [if_neg (by decide), if_neg (by decide), if_neg (by decide), if_neg (by decide), if_neg (by decide), if_pos (by decide), if_pos (by decide)]
  exact gt0 8
theorem m8 {σ : sg} (h : pgG (gB σ 17) 8) : inP 0 9 (fgM σ 8) := by
  unfold pgG at h
  rw [if_neg (by decide), if_neg (by decide), if_neg (by decide), if_neg (by decide), if_neg (by decide)] at h
  exact (gt0 8).mp h
theorem i9 {σ : sg} (h : ∀ j, j < 9 → pgG (gB σ 17) j) : pgG (gB σ 17) 9 ↔ mgP σ 9 := by
  have q0 := m8 (h 8 (by decide))
  unfold pgG mgP
  rw [if_neg (by decide), if_neg (by decide), if_neg (by decide), if_neg (by decide), if_neg (by decide), if_pos (by decide), if_neg (by decide), if_pos (by decide)]
  exact gt1 q0
theorem m9 {σ : sg} (h : ∀ j, j < 9 → pgG (gB σ 17) j) (h2 : pgG (gB σ 17) 9) : inP 0 9 (fgM σ 9) := by
  have q0 := m8 (h 8 (by decide))
  unfold pgG at h2
  rw [if_neg (by decide), if_neg (by decide), if_neg (by decide), if_neg (by decide), if_neg (by decide)] at h2
  exact ((gt1 q0).mp h2).1
theorem i10 {σ : sg} (h : ∀ j, j < 10 → pgG (gB σ 17) j) : pgG (gB σ 17) 10 ↔ mgP σ 10 := by
  have q0 := m8 (h 8 (by decide))
  have q1 := m9 (fun j hj => h j (Nat.lt_succ_of_lt hj)) (h 9 (by decide))
  unfold pgG mgP
  rw [if_neg (by decide), if_neg (by decide), if_neg (by decide), if_neg (by decide), if_neg (by decide), if_pos (by decide), if_neg (by decide), if_neg (by decide), if_pos (by decide)]
  exact gt2 q0 q1
theorem i11 {σ : sg} (h : ∀ j, j < 11 → pgG (gB σ 17) j) : pgG (gB σ 17) 11 ↔ mgP σ 11 := by
  unfold pgG mgP
  rw [if_neg (by decide), if_neg (by decide), if_neg (by decide), if_pos (by decide), if_pos (by decide), if_neg (by decide), if_neg (by decide), if_neg (by decide), if_pos (by decide)]
theorem i12 {σ : sg} (h : ∀ j, j < 12 → pgG (gB σ 17) j) : pgG (gB σ 17) 12 ↔ mgP σ 12 := by
  rw [pg12i]
  unfold mgP
  rw [if_neg (by decide), if_pos (by decide)]
theorem i13 {σ : sg} (h : ∀ j, j < 13 → pgG (gB σ 17) j) : pgG (gB σ 17) 13 ↔ mgP σ 13 := by
  unfold pgG mgP
  rw [if_neg (by decide), if_pos (by decide), if_neg (by decide), if_neg (by decide), dg_in]
  exact ⟨fun g => ⟨rfl, g⟩, fun g => g.2⟩
theorem pg_mg {σ : sg} {p : Nat} (h : ∀ j, j < p → pgG (gB σ 17) j) : pgG (gB σ 17) p ↔ mgP σ p := by
  by_cases g : p < 14
  · rcases (show p = 0 ∨ p = 1 ∨ p = 2 ∨ p = 3 ∨ p = 4 ∨ p = 5 ∨ p = 6 ∨ p = 7 ∨ p = 8 ∨ p = 9 ∨ p = 10 ∨ p = 11 ∨ p = 12 ∨ p = 13 by omega) with rfl | rfl | rfl | rfl | rfl | rfl | rfl | rfl | rfl | rfl | rfl | rfl | rfl | rfl
    · exact i0 h
    · exact i1 h
    · exact i2 h
    · exact i3 h
    · exact i4 h
    · exact i5 h
    · exact i6 h
    · exact i7 h
    · exact i8 h
    · exact i9 h
    · exact i10 h
    · exact i11 h
    · exact i12 h
    · exact i13 h
  · unfold pgG mgP
    rw [if_pos (by omega), if_neg (by omega), if_neg (by omega)]
    exact ⟨fun q => q.elim, fun q => absurd q.1 (by omega)⟩
theorem pg_all {σ : sg} (n : Nat) : (∀ j, j < n → pgG (gB σ 17) j) ↔ ∀ j, j < n → mgP σ j := by
  induction n with
  | zero => exact ⟨fun _ j hj => absurd hj (Nat.not_lt_zero _), fun _ j hj => absurd hj (Nat.not_lt_zero _)⟩
  | succ n ih =>
    constructor
    · intro h j hj
      by_cases e : j = n
      · subst e; exact (pg_mg (fun i hi => h i (by omega))).mp (h j hj)
      · exact ih.mp (fun i hi => h i (by omega)) j (by omega)
    · intro h
      have h2 := ih.mpr (fun i hi => h i (by omega))
      intro j hj
      by_cases e : j = n
      · subst e; exact (pg_mg h2).mpr (h j hj)
      · exact h2 j (by omega)
theorem ff_mg {σ : sg} {n k : Nat} (h : ffP (mgP σ) n k) : ffP (pgG (gB σ 17)) n k := by
  obtain ⟨h1, h2, h3⟩ := h
  have h4 := (pg_all k).mpr h2
  exact ⟨h1, h4, fun g q => h3 g ((pg_mg h4).mp q)⟩
theorem eFault {σ : sg} {r : Int32} (h : ∃ k, r = nI k ∧ ffP (mgP σ) (gN σ 16) k) : r = nI (ffC σ) := by
  obtain ⟨k, rfl, hk⟩ := h
  rw [ffC_eq (ff_mg hk)]
theorem eStation (σ : sg) : oStation σ = mStation σ := by
  unfold oStation mStation
  exact cIf_iff (and_congr Iff.rfl (pg_all 14)) _ _
theorem SgN.b7 {σ : sg} (H : SgN σ) (f : Nat → Int32) : SgN (uB σ 7 f) := H
theorem eReading {σ : sg} (I : InS σ) (v : Int32) : oReading σ v = mReading σ v := by
  unfold oReading mReading
  by_cases h : inP 0 2 v
  · rw [cIf_t h, cIf_t h, I.if3]
    by_cases g : gN σ 0 = 0
    · rw [if_pos g, if_pos g]
    · rw [if_neg g, if_neg g]
      have H := I.sgn.b7 (upR σ v)
      have e : allF (F_step (tnS σ) (nI (gN σ 4)) (upR σ v)) (gN σ 6) = lN (wgN (uB σ 7 (upR σ v)) 1 (-1)) := allF_N H 1
      have w := H.wle 1 (-1)
      rw [e, wgC_N H.1 H.2.1 H.2.2]
      by_cases z : wgN (uB σ 7 (upR σ v)) 1 (-1) = 0
      · rw [if_pos ((lN_pos (by omega)).mpr z), if_pos ((lN_z (by omega)).mpr z)]
      · rw [if_neg (fun q => z ((lN_pos (by omega)).mp q)), if_neg (fun q => z ((lN_z (by omega)).mp q))]
  · rw [cIf_f h, cIf_f h]
theorem dyV_m {σ : sg} (I : InS σ) (T : totP σ) (w : Nat) {i : Nat} (hi : i < gN σ 8) : dyV σ w i = mdV σ w i := by
  unfold dyV mdV
  rw [propext (eCov I.sgn T (I.k9 hi))]
theorem dyN_m {σ : sg} (I : InS σ) (T : totP σ) (w : Nat) : dyN σ w = dyM σ w := by
  unfold dyN dyM
  have e : dyP σ w = pdM σ w (gN σ 8) := by
    funext j
    unfold dyP pdM
    by_cases g : j < gN σ 8
    · rw [if_pos g, if_pos g, dyV_m I T w g]
    · rw [if_neg g, if_neg g]
  rw [e]
theorem eDay {σ : sg} (I : InS σ) (T : gN σ 0 = 1 → totP σ) (v : Int32) : oDay σ v = mDay σ v := by
  unfold oDay mDay
  by_cases h : inP 0 2 v
  · rw [cIf_t h, cIf_t h, I.if3]
    by_cases g : gN σ 0 = 0
    · rw [if_pos g, if_pos g]
    · rw [if_neg g, if_neg g]
      obtain ⟨j, rfl, -, hj⟩ := h
      have H := I.sgn
      have w := H.wle 1 (nI j)
      rw [nIc (by omega), oddF_N H (by decide) (by decide) (by omega), wgC_N H.1 H.2.1 H.2.2, dyN_m I (T (I.one g))]
      by_cases z : wgN σ 1 (nI j) = 0
      · rw [if_pos ((lN_z (by omega)).mpr z), if_neg]
        rw [z]; decide
      · rw [if_neg (fun q => z ((lN_z (by omega)).mp q)), if_pos (show (0 : Int64) < lN (wgN σ 1 (nI j)) from (pk_lLT (a := 0) (b := wgN σ 1 (nI j)) (by decide) (by omega)).mpr (by omega))]
  · rw [cIf_f h, cIf_f h]
theorem eImage {σ : sg} (I : InS σ) : oImage σ = mImage σ := by
  unfold oImage mImage
  exact I.if3 _ _
theorem eRestore (σ : sg) : oRestore σ = mRestore σ := rfl
/-! the digest -/
theorem ab_m {σ : sg} (I : InS σ) (T : gN σ 0 = 1 → totP σ) {i k : Nat} (hi : i < gN σ 8) (hk : k ≤ 4) : cAbout σ (nI i) (nI k) = mPer σ i (nI k) := by
  have i8 := I.2.2.2.2.2.1
  rw [eAbout I T]
  unfold mAbout
  rw [cIf_t ⟨i, rfl, hi⟩, cIf_t ⟨k, rfl, Nat.zero_le _, hk⟩, nIc (by omega)]
theorem dgP_m {σ : sg} (I : InS σ) (T : gN σ 0 = 1 → totP σ) (s : Int64) (n : Nat) (hn : n ≤ gN σ 8) : dgP σ s n = mdP σ s n := by
  induction n with
  | zero => rfl
  | succ n ih =>
    simp only [dgP, mdP]
    rw [ih (by omega)]
    have e0 : cAbout σ (nI n) 0 = mPer σ n 0 := ab_m I T (k := 0) (by omega) (by decide)
    have e1 : cAbout σ (nI n) 1 = mPer σ n 1 := ab_m I T (k := 1) (by omega) (by decide)
    have e2 : cAbout σ (nI n) 2 = mPer σ n 2 := ab_m I T (k := 2) (by omega) (by decide)
    have e3 : cAbout σ (nI n) 3 = mPer σ n 3 := ab_m I T (k := 3) (by omega) (by decide)
    have e4 : cAbout σ (nI n) 4 = mPer σ n 4 := ab_m I T (k := 4) (by omega) (by decide)
    rw [e0, e1, e2, e3, e4]
theorem lk_m {σ : sg} (I : InS σ) (T : gN σ 0 = 1 → totP σ) (g : ¬ gN σ 0 = 0) {k w p : Nat} (hk1 : 1 ≤ k) (hk : k ≤ 6) (hw : w ≤ 2) (hp : p ≤ 1) : cLikely σ (nI k) (nI w) (nI p) = mlk σ k (nI w) (nI p) := by
  rw [eLikely I T]
  unfold mLikely mlk
  rw [cIf_t ⟨⟨k, rfl, hk1, hk⟩, ⟨w, rfl, Nat.zero_le _, hw⟩⟩, cIf_t ⟨p, rfl, Nat.zero_le _, hp⟩, if_neg g, nIc (by omega)]
theorem dgL_m {σ : sg} (I : InS σ) (T : gN σ 0 = 1 → totP σ) (g : ¬ gN σ 0 = 0) (s : Int64) {k : Nat} (hk1 : 1 ≤ k) (hk : k ≤ 6) : dgL σ s (nI k) = mdL σ s k := by
  have e00 : cLikely σ (nI k) 0 0 = mlk σ k 0 0 := lk_m I T g (w := 0) (p := 0) hk1 hk (by decide) (by decide)
  have e01 : cLikely σ (nI k) 0 1 = mlk σ k 0 1 := lk_m I T g (w := 0) (p := 1) hk1 hk (by decide) (by decide)
  have e10 : cLikely σ (nI k) 1 0 = mlk σ k 1 0 := lk_m I T g (w := 1) (p := 0) hk1 hk (by decide) (by decide)
  have e11 : cLikely σ (nI k) 1 1 = mlk σ k 1 1 := lk_m I T g (w := 1) (p := 1) hk1 hk (by decide) (by decide)
  have e20 : cLikely σ (nI k) 2 0 = mlk σ k 2 0 := lk_m I T g (w := 2) (p := 0) hk1 hk (by decide) (by decide)
  have e21 : cLikely σ (nI k) 2 1 = mlk σ k 2 1 := lk_m I T g (w := 2) (p := 1) hk1 hk (by decide) (by decide)
  unfold dgL mdL
  rw [e00, e01, e10, e11, e20, e21]
theorem to_m {σ : sg} (I : InS σ) (g : ¬ gN σ 0 = 0) {k : Nat} (h1 : 1 ≤ k) (h : k ≤ 4) : cTold σ (nI k) = gB σ 7 k := by
  rw [eTold I]
  unfold mTold
  rw [cIf_t ⟨k, rfl, h1, h⟩, if_neg g, nIc (by omega)]
theorem dgT_m {σ : sg} (I : InS σ) (g : ¬ gN σ 0 = 0) (s : Int64) : dgT σ s = mdT σ s := by
  have e1 : cTold σ 1 = gB σ 7 1 := to_m I g (k := 1) (by decide) (by decide)
  have e2 : cTold σ 2 = gB σ 7 2 := to_m I g (k := 2) (by decide) (by decide)
  have e3 : cTold σ 3 = gB σ 7 3 := to_m I g (k := 3) (by decide) (by decide)
  have e4 : cTold σ 4 = gB σ 7 4 := to_m I g (k := 4) (by decide) (by decide)
  unfold dgT mdT
  rw [e1, e2, e3, e4]
theorem lo_m {σ : sg} (I : InS σ) (T : gN σ 0 = 1 → totP σ) (g : ¬ gN σ 0 = 0) {p : Nat} (hp : p ≤ 1) : cLook σ 2 5 (nI p) = mlo σ 2 5 (nI p) := by
  rw [eLook I T]
  unfold mLook mlo
  have c2 : (2 : Int32).toNatClampNeg = 2 := nIc (k := 2) (by decide)
  have c5 : (5 : Int32).toNatClampNeg = 5 := nIc (k := 5) (by decide)
  rw [cIf_t ⟨⟨2, rfl, by decide, by decide⟩, ⟨5, rfl, by decide, by decide⟩, ⟨p, rfl, Nat.zero_le _, hp⟩⟩, if_neg g, c2, c5]
theorem dgC_m {σ : sg} (I : InS σ) (T : gN σ 0 = 1 → totP σ) (g : ¬ gN σ 0 = 0) (s : Int64) : dgC σ s = mdC σ s := by
  have a1 : ∀ s, dgL σ s 1 = mdL σ s 1 := fun s => dgL_m I T g s (k := 1) (by decide) (by decide)
  have a6 : ∀ s, dgL σ s 6 = mdL σ s 6 := fun s => dgL_m I T g s (k := 6) (by decide) (by decide)
  have b1 : cLikeliest σ = lkM σ := by rw [eLikeliest I T]; unfold mLikeliest; rw [if_neg g]
  have b2 : cWays σ = nI (wyM σ) := by rw [eWays I]; unfold mWays; rw [if_neg g]
  have b3 : cSure σ 1 = msr σ 1 := by
    have c1 : (1 : Int32).toNatClampNeg = 1 := nIc (k := 1) (by decide)
    rw [eSure I]; unfold mSure msr; rw [cIf_t ⟨1, rfl, by decide, by decide⟩, if_neg g, c1]
  have c0 : cLook σ 2 5 0 = mlo σ 2 5 0 := lo_m I T g (p := 0) (by decide)
  have c1 : cLook σ 2 5 1 = mlo σ 2 5 1 := lo_m I T g (p := 1) (by decide)
  unfold dgC mdC
  rw [dgT_m I g, a1, a6, b1, b2, b3, c0, c1]
theorem wr_m {σ : sg} {k : Nat} (h : k ≤ 4) : cWrong σ (nI k) = nI (wrS σ k) := by
  unfold cWrong wrS
  rw [cIf_t ⟨k, rfl, Nat.zero_le _, h⟩, nIc (by omega)]
theorem dgW_m (σ : sg) (s : Int64) : dgW σ s = mdW σ s := by
  have e0 : cWrong σ 0 = nI (wrS σ 0) := wr_m (k := 0) (by decide)
  have e1 : cWrong σ 1 = nI (wrS σ 1) := wr_m (k := 1) (by decide)
  have e2 : cWrong σ 2 = nI (wrS σ 2) := wr_m (k := 2) (by decide)
  have e3 : cWrong σ 3 = nI (wrS σ 3) := wr_m (k := 3) (by decide)
  have e4 : cWrong σ 4 = nI (wrS σ 4) := wr_m (k := 4) (by decide)
  unfold dgW mdW
  rw [e0, e1, e2, e3, e4]
theorem eDigest {σ : sg} (I : InS σ) (T : gN σ 0 = 1 → totP σ) : cDigest σ = mDigest σ := by
  unfold cDigest mDigest
  rw [I.if3, dgW_m, dgP_m I T 821 _ (Nat.le_refl _)]
  by_cases g : gN σ 0 = 0
  · rw [if_pos g, if_pos g]
  · rw [if_neg g, if_neg g, dgC_m I T g]

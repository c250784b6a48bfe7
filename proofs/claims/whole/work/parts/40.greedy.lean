/-! the likeliest days -/
theorem mx64_N {a b : Nat} (ha : a < 2 ^ 63) (hb : b < 2 ^ 63) : mx64 (lN a) (lN b) = lN (max a b) := by
  unfold mx64
  by_cases g : b < a
  · rw [if_pos ((pk_lLT hb ha).mpr g), Nat.max_eq_left (by omega)]
  · rw [if_neg (fun q => g ((pk_lLT hb ha).mp q)), Nat.max_eq_right (by omega)]
def mxN (stp : Nat → Nat → Nat → Nat) : Nat → Nat → Nat
  | 0, _ => 1
  | d + 1, v => max (max (stp (6 - d) v 0 * mxN stp d 0) (stp (6 - d) v 1 * mxN stp d 1)) (stp (6 - d) v 2 * mxN stp d 2)
theorem mxN_s (stp : Nat → Nat → Nat → Nat) (d v : Nat) : mxN stp (d + 1) v = max (max (stp (6 - d) v 0 * mxN stp d 0) (stp (6 - d) v 1 * mxN stp d 1)) (stp (6 - d) v 2 * mxN stp d 2) := rfl
theorem mxN_w {stp : Nat → Nat → Nat → Nat} {d v w : Nat} (hw : w < 3) : stp (6 - d) v w * mxN stp d w ≤ mxN stp (d + 1) v := by
  rw [mxN_s]
  rcases (show w = 0 ∨ w = 1 ∨ w = 2 by omega) with rfl | rfl | rfl <;> omega
theorem mxN_le {σ : sg} (H : SgN σ) (d v : Nat) (hv : v < 3) : mxN (spN σ) d v ≤ 100 ^ d := by
  induction d generalizing v with
  | zero => exact Nat.le_refl _
  | succ d ih =>
    have e : ∀ w, w < 3 → spN σ (6 - d) v w * mxN (spN σ) d w ≤ 100 ^ (d + 1) := fun w hw => by
      rw [Nat.pow_succ, Nat.mul_comm]
      exact Nat.mul_le_mul (ih w hw) (H.le _ hv hw)
    have := e 0 (by decide)
    have := e 1 (by decide)
    have := e 2 (by decide)
    rw [mxN_s]
    omega
theorem pw_le {d : Nat} (hd : d ≤ 6) : (100 : Nat) ^ d ≤ 1000000000000 := Nat.le_trans (Nat.pow_le_pow_right (by decide) hd) (by decide)
theorem mxP3 (f : Nat → Int64) : mxP f 3 = mx64 (mx64 (mx64 0 (f 0)) (f 1)) (f 2) := rfl
theorem mxD_N {σ : sg} (H : SgN σ) (d v : Nat) (hd : d ≤ 6) (hv : v < 3) : mxD (stS σ) d v = lN (mxN (spN σ) d v) := by
  induction d generalizing v with
  | zero => rfl
  | succ d ih =>
    have p := pw_le hd
    have b : ∀ w, w < 3 → spN σ (6 - d) v w * mxN (spN σ) d w < 2 ^ 63 := fun w hw => by
      have := mxN_w (stp := spN σ) (d := d) (v := v) hw
      have := mxN_le H (d + 1) v hv
      omega
    have e : ∀ w, w < 3 → stS σ (6 - d) v w * mxD (stS σ) d w = lN (spN σ (6 - d) v w * mxN (spN σ) d w) := fun w hw => by
      rw [ih w (by omega) hw, H.st _ hv hw, lN_mul]
    have b0 := b 0 (by decide)
    have b1 := b 1 (by decide)
    have b2 := b 2 (by decide)
    simp only [mxD]
    rw [mxP3, e 0 (by decide), e 1 (by decide), e 2 (by decide), mxN_s, show (0 : Int64) = lN 0 from rfl, mx64_N (by decide) b0, mx64_N (by omega) b1, mx64_N (by omega) b2, Nat.zero_max]
/-- the first of the greatest -/
def pkN (f : Nat → Nat) : Nat → Nat × Nat
  | 0 => (0, 0)
  | w + 1 => if f w ≤ (pkN f w).2 then pkN f w else (w, f w)
theorem pk3_N {f : Nat → Int64} {g : Nat → Nat} (n : Nat) (h : ∀ w, w < n → f w = lN (g w) ∧ g w < 2 ^ 63) : pk3 f n = ((pkN g n).1, lN (pkN g n).2) ∧ (pkN g n).2 < 2 ^ 63 := by
  induction n with
  | zero => exact ⟨rfl, by show (0 : Nat) < 2 ^ 63; decide⟩
  | succ n ih =>
    obtain ⟨i1, i2⟩ := ih (fun w hw => h w (by omega))
    obtain ⟨e, b⟩ := h n (by omega)
    simp only [pk3, pkN]
    rw [i1, e]
    by_cases q : g n ≤ (pkN g n).2
    · rw [if_pos q, if_pos ((pk_lLE b i2).mpr q)]; exact ⟨rfl, i2⟩
    · rw [if_neg q, if_neg (fun r => q ((pk_lLE b i2).mp r))]; exact ⟨rfl, b⟩
theorem pkN_sp (f : Nat → Nat) (n : Nat) : (∀ w, w < n → f w ≤ (pkN f n).2) ∧ ((pkN f n).1 < n ∨ (pkN f n).1 = 0) ∧ (0 < (pkN f n).2 → f (pkN f n).1 = (pkN f n).2 ∧ ∀ w, w < (pkN f n).1 → f w < (pkN f n).2) := by
  induction n with
  | zero => exact ⟨fun w hw => absurd hw (Nat.not_lt_zero _), Or.inr rfl, fun h => absurd h (Nat.lt_irrefl _)⟩
  | succ n ih =>
    obtain ⟨a1, a2, a3⟩ := ih
    simp only [pkN]
    by_cases q : f n ≤ (pkN f n).2
    · rw [if_pos q]
      refine ⟨fun w hw => ?_, by omega, a3⟩
      by_cases e : w = n
      · rw [e]; exact q
      · exact a1 w (by omega)
    · rw [if_neg q]
      refine ⟨fun w hw => ?_, Or.inl (Nat.lt_succ_self _), fun _ => ⟨rfl, fun w hw => ?_⟩⟩
      · show f w ≤ f n
        by_cases e : w = n
        · rw [e]; exact Nat.le_refl _
        · have := a1 w (by omega); omega
      · show f w < f n
        have := a1 w hw; omega
def pkW (stp : Nat → Nat → Nat → Nat) (d v : Nat) : Nat := (pkN (fun w => stp (6 - d) v w * mxN stp d w) 3).1
theorem pkW_lt (stp : Nat → Nat → Nat → Nat) (d v : Nat) : pkW stp d v < 3 := by
  have := (pkN_sp (fun w => stp (6 - d) v w * mxN stp d w) 3).2.1
  unfold pkW; omega
theorem pkW_sp {stp : Nat → Nat → Nat → Nat} {d v : Nat} (h : 0 < mxN stp (d + 1) v) : stp (6 - d) v (pkW stp d v) * mxN stp d (pkW stp d v) = mxN stp (d + 1) v ∧ ∀ w, w < pkW stp d v → stp (6 - d) v w * mxN stp d w < mxN stp (d + 1) v := by
  obtain ⟨a1, a2, a3⟩ := pkN_sp (fun w => stp (6 - d) v w * mxN stp d w) 3
  have b0 := a1 0 (by decide)
  have b1 := a1 1 (by decide)
  have b2 := a1 2 (by decide)
  have em : mxN stp (d + 1) v ≤ (pkN (fun w => stp (6 - d) v w * mxN stp d w) 3).2 := by rw [mxN_s]; omega
  obtain ⟨c1, c2⟩ := a3 (by omega)
  have c3 : stp (6 - d) v (pkW stp d v) * mxN stp d (pkW stp d v) = (pkN (fun w => stp (6 - d) v w * mxN stp d w) 3).2 := c1
  have c4 := mxN_w (stp := stp) (d := d) (v := v) (pkW_lt stp d v)
  refine ⟨by omega, fun w hw => ?_⟩
  have := c2 w hw
  omega
def grN (stp : Nat → Nat → Nat → Nat) : Nat → Nat → Nat
  | 0, _ => 0
  | d + 1, v => pkW stp d v * 3 ^ d + grN stp d (pkW stp d v)
theorem grN_s (stp : Nat → Nat → Nat → Nat) (d v : Nat) : grN stp (d + 1) v = pkW stp d v * 3 ^ d + grN stp d (pkW stp d v) := rfl
theorem split3 {d c : Nat} (hc : c < 3 ^ (d + 1)) : ∃ w r, w < 3 ∧ r < 3 ^ d ∧ c = w * 3 ^ d + r := by
  have hp : 0 < 3 ^ d := Nat.pow_pos (by decide)
  refine ⟨c / 3 ^ d, c % 3 ^ d, ?_, Nat.mod_lt _ hp, ?_⟩
  · rw [Nat.pow_succ] at hc; exact (Nat.div_lt_iff_lt_mul hp).mpr (by omega)
  · have := Nat.div_add_mod c (3 ^ d); rw [Nat.mul_comm] at this; omega
theorem pp_max (stp : Nat → Nat → Nat → Nat) (d : Nat) (hd : d ≤ 6) (v c : Nat) (hc : c < 3 ^ d) : ppN stp (wIn c) d v ≤ mxN stp d v := by
  induction d generalizing v c with
  | zero => exact Nat.le_refl _
  | succ d ih =>
    obtain ⟨w, r, hw, hr, rfl⟩ := split3 hc
    rw [pp_step (by omega) hw hr]
    exact Nat.le_trans (Nat.mul_le_mul_left _ (ih (by omega) w r hr)) (mxN_w hw)
theorem gr_sp (stp : Nat → Nat → Nat → Nat) (d : Nat) (hd : d ≤ 6) (v : Nat) (h : 0 < mxN stp d v) : grN stp d v < 3 ^ d ∧ ppN stp (wIn (grN stp d v)) d v = mxN stp d v ∧ ∀ c, c < grN stp d v → ppN stp (wIn c) d v < mxN stp d v := by
  induction d generalizing v with
  | zero => exact ⟨by show (0 : Nat) < 1; decide, rfl, fun c hc => absurd hc (Nat.not_lt_zero _)⟩
  | succ d ih =>
    obtain ⟨e1, e2⟩ := pkW_sp h
    have hw := pkW_lt stp d v
    rw [grN_s]
    generalize pkW stp d v = w at *
    have hm : 0 < mxN stp d w := Nat.pos_of_mul_pos_left (a := stp (6 - d) v w) (by rw [e1]; exact h)
    have hs : 0 < stp (6 - d) v w := Nat.pos_of_mul_pos_right (b := mxN stp d w) (by rw [e1]; exact h)
    obtain ⟨i1, i2, i3⟩ := ih (by omega) w hm
    have hp : w * 3 ^ d ≤ 2 * 3 ^ d := Nat.mul_le_mul_right _ (by omega)
    refine ⟨by rw [Nat.pow_succ]; omega, by rw [pp_step (by omega) hw i1, i2, e1], fun c hc => ?_⟩
    obtain ⟨w2, r, hw2, hr, rfl⟩ := split3 (d := d) (c := c) (by rw [Nat.pow_succ]; omega)
    rw [pp_step (by omega) hw2 hr]
    by_cases g : w2 = w
    · subst g
      have := Nat.mul_lt_mul_of_pos_left (i3 r (by omega)) hs
      omega
    · have g2 : w2 < w := by
        rcases Nat.lt_or_ge w2 w with q | q
        · exact q
        · have := Nat.mul_le_mul_right (3 ^ d) (show w + 1 ≤ w2 by omega)
          rw [Nat.add_mul] at this; omega
      exact Nat.lt_of_le_of_lt (Nat.mul_le_mul_left _ (pp_max stp d (by omega) w2 r hr)) (e2 w2 g2)
theorem grS_s (stp : Nat → Nat → Nat → Int64) (wn k : Nat) : grS stp wn (k + 1) = ((grS stp wn k).1 * 3 + (pk3 (fun w => stp (k + 1) (grS stp wn k).2 w * mxD stp (6 - (k + 1)) w) 3).1, (pk3 (fun w => stp (k + 1) (grS stp wn k).2 w * mxD stp (6 - (k + 1)) w) 3).1) := rfl
theorem grS_N {σ : sg} (H : SgN σ) (k : Nat) (hk : k ≤ 6) : (grS (stS σ) (gN σ 6) k).2 < 3 ∧ grN (spN σ) 6 (gN σ 6) = (grS (stS σ) (gN σ 6) k).1 * 3 ^ (6 - k) + grN (spN σ) (6 - k) (grS (stS σ) (gN σ 6) k).2 := by
  induction k with
  | zero => exact ⟨H.1, by simp [grS]⟩
  | succ k ih =>
    obtain ⟨i1, i2⟩ := ih (by omega)
    have e : (pk3 (fun w => stS σ (k + 1) (grS (stS σ) (gN σ 6) k).2 w * mxD (stS σ) (6 - (k + 1)) w) 3).1 = pkW (spN σ) (6 - (k + 1)) (grS (stS σ) (gN σ 6) k).2 := by
      have := (pk3_N (f := fun w => stS σ (k + 1) (grS (stS σ) (gN σ 6) k).2 w * mxD (stS σ) (6 - (k + 1)) w) (g := fun w => spN σ (k + 1) (grS (stS σ) (gN σ 6) k).2 w * mxN (spN σ) (6 - (k + 1)) w) 3 (fun w hw => ⟨by
        show stS σ (k + 1) _ w * mxD (stS σ) (6 - (k + 1)) w = _
        rw [H.st _ i1 hw, mxD_N H _ _ (by omega) hw, lN_mul], by
        have a1 := Nat.mul_le_mul (H.le (k + 1) i1 hw) (mxN_le H (6 - (k + 1)) w hw)
        have a2 := pw_le (d := 6 - (k + 1)) (by omega)
        show spN σ (k + 1) _ w * _ < _
        omega⟩)).1
      rw [this]
      unfold pkW
      rw [show 6 - (6 - (k + 1)) = k + 1 by omega]
    rw [grS_s, e]
    have hw := pkW_lt (spN σ) (6 - (k + 1)) (grS (stS σ) (gN σ 6) k).2
    refine ⟨hw, ?_⟩
    rw [i2, show 6 - k = (6 - (k + 1)) + 1 by omega, grN_s]
    show (grS (stS σ) (gN σ 6) k).1 * 3 ^ (6 - (k + 1) + 1) + (pkW (spN σ) (6 - (k + 1)) (grS (stS σ) (gN σ 6) k).2 * 3 ^ (6 - (k + 1)) + grN (spN σ) (6 - (k + 1)) (pkW (spN σ) (6 - (k + 1)) (grS (stS σ) (gN σ 6) k).2)) = ((grS (stS σ) (gN σ 6) k).1 * 3 + pkW (spN σ) (6 - (k + 1)) (grS (stS σ) (gN σ 6) k).2) * 3 ^ (6 - (k + 1)) + grN (spN σ) (6 - (k + 1)) (pkW (spN σ) (6 - (k + 1)) (grS (stS σ) (gN σ 6) k).2)
    rw [Nat.pow_succ, Nat.add_mul]
    generalize (grS (stS σ) (gN σ 6) k).1 = A
    generalize 3 ^ (6 - (k + 1)) = B
    rw [Nat.mul_assoc A 3 B, Nat.mul_comm 3 B]
    omega
theorem lkB_sp {od : Nat → Int64} {oN : Nat → Nat} (h : ∀ c, od c = lN (oN c) ∧ oN c < 2 ^ 63) (n : Nat) : ∃ i b, lkB od (n + 1) = (nI i, lN b) ∧ b < 2 ^ 63 ∧ oN i = b ∧ (∀ c, c < n + 1 → oN c ≤ b) ∧ (∀ c, c < i → oN c < b) ∧ i < n + 1 := by
  induction n with
  | zero =>
    refine ⟨0, oN 0, ?_, (h 0).2, rfl, fun c hc => by rw [show c = 0 by omega]; exact Nat.le_refl _, fun c hc => absurd hc (Nat.not_lt_zero _), by decide⟩
    show (if od 0 ≤ (-1 : Int64) then ((-1 : Int32), (-1 : Int64)) else (nI 0, od 0)) = _
    rw [(h 0).1, if_neg]
    intro q
    have q1 := Int64.le_iff_toInt_le.mp q
    rw [show (lN (oN 0)).toInt = (oN 0 : Int) from lg_ofNat_toInt (h 0).2] at q1
    have e : (-1 : Int64).toInt = -1 := by decide
    rw [e] at q1
    omega
  | succ n ih =>
    obtain ⟨i, b, e, hb, hi, h1, h2, h3⟩ := ih
    have s : lkB od (n + 1 + 1) = if od (n + 1) ≤ (lkB od (n + 1)).2 then lkB od (n + 1) else (nI (n + 1), od (n + 1)) := rfl
    rw [s, e, (h (n + 1)).1]
    by_cases q : oN (n + 1) ≤ b
    · refine ⟨i, b, by rw [if_pos ((pk_lLE (h (n + 1)).2 hb).mpr q)], hb, hi, fun c hc => ?_, h2, by omega⟩
      by_cases ec : c = n + 1
      · rw [ec]; exact q
      · exact h1 c (by omega)
    · refine ⟨n + 1, oN (n + 1), by rw [if_neg (fun r => q ((pk_lLE (h (n + 1)).2 hb).mp r))], (h _).2, rfl, fun c hc => ?_, fun c hc => ?_, by omega⟩
      · by_cases ec : c = n + 1
        · rw [ec]; exact Nat.le_refl _
        · have := h1 c (by omega); omega
      · have := h1 c (by omega); omega
theorem lkB_sp2 {od : Nat → Int64} {oN : Nat → Nat} (h : ∀ c, od c = lN (oN c) ∧ oN c < 2 ^ 63) (n : Nat) (hn : 0 < n) : ∃ i b, lkB od n = (nI i, lN b) ∧ b < 2 ^ 63 ∧ oN i = b ∧ (∀ c, c < n → oN c ≤ b) ∧ (∀ c, c < i → oN c < b) ∧ i < n := by
  cases n with
  | zero => exact absurd hn (Nat.lt_irrefl _)
  | succ n => exact lkB_sp h n
theorem lkB_is {od : Nat → Int64} {oN : Nat → Nat} (h : ∀ c, od c = lN (oN c) ∧ oN c < 2 ^ 63) {n g M : Nat} (hg : g < n) (hM : oN g = M) (hx : ∀ c, c < n → oN c ≤ M) (hf : ∀ c, c < g → oN c < M) : (lkB od n).1 = nI g := by
  obtain ⟨i, b, e, hb, hi, h1, h2, h3⟩ := lkB_sp2 h n (by omega)
  rw [e]
  have k1 := h1 g hg
  have k2 := hx i h3
  rcases Nat.lt_trichotomy i g with q | q | q
  · have := hf i q; omega
  · rw [q]
  · have := h2 g q; omega
theorem odN_pp (σ : sg) (c : Nat) : odN σ c = ppN (spN σ) (wIn c) 6 (gN σ 6) := by unfold odN; rw [odBN_pp]
theorem gr_eq {σ : sg} (H : SgN σ) : grN (spN σ) 6 (gN σ 6) = (grS (stS σ) (gN σ 6) 6).1 := by
  have := (grS_N H 6 (by decide)).2
  rw [this, Nat.sub_self, show grN (spN σ) 0 (grS (stS σ) (gN σ 6) 6).2 = 0 from rfl, Nat.pow_zero, Nat.mul_one, Nat.add_zero]
theorem mx_pos {stp : Nat → Nat → Nat → Nat} {w : Nat} (ht : 0 < bN stp 6 w) : 0 < mxN stp 6 w := by
  rw [← sum_bN _ 6 (by decide)] at ht
  obtain ⟨c, hc, hp⟩ := sumT_pos.mp ht
  exact Nat.lt_of_lt_of_le hp (pp_max _ 6 (by decide) _ c hc)
theorem lkM_3 {σ : sg} (H : SgN σ) (ht : 0 < bN (spN σ) 6 (gN σ 6)) : (lkB (odC σ) (3 ^ 6)).1 = nI (grN (spN σ) 6 (gN σ 6)) := by
  obtain ⟨g1, g2, g3⟩ := gr_sp (spN σ) 6 (by decide) (gN σ 6) (mx_pos ht)
  refine lkB_is (oN := odN σ) (fun c => ⟨odC_N H.1 H.2.1 H.2.2 c, Nat.lt_of_le_of_lt (odN_le H.1 H.2.1 H.2.2 c) (by decide)⟩) g1 ((odN_pp σ _).trans g2) (fun c hc => ?_) (fun c hc => ?_)
  · rw [odN_pp]; exact pp_max (spN σ) 6 (by decide) (gN σ 6) c hc
  · rw [odN_pp]; exact g3 c hc
set_option maxRecDepth 100000 in
theorem lkM_eq (σ : sg) (n : Nat) (hn : n = 729) : lkM σ = (lkB (odC σ) n).1 := by unfold lkM; rw [hn]
theorem lkM_N {σ : sg} (H : SgN σ) (ht : 0 < bN (spN σ) 6 (gN σ 6)) : lkM σ = nI (grS (stS σ) (gN σ 6) 6).1 := by
  have h36 : (3 : Nat) ^ 6 = 729 := by decide
  obtain ⟨n, hn⟩ : ∃ n, n = (3 : Nat) ^ 6 := ⟨_, rfl⟩
  have h3 := lkM_3 H ht
  rw [← hn] at h3
  rw [lkM_eq σ n (hn.trans h36), h3, gr_eq H]

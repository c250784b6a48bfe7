/-! the class's answers are the model's -/
def totP (σ : sg) : Prop := 0 < bN (spN σ) 6 (gN σ 6)
theorem InS.sgn {σ : sg} (I : InS σ) : SgN σ := ⟨I.2.2.2.2.1, I.2.2.2.1, I.2.2.2.2.2.2.2.2.1⟩
theorem InS.k9 {σ : sg} (I : InS σ) {i : Nat} (h : i < gN σ 8) : gA σ 9 i < 5 := I.2.2.2.2.2.2.2.2.2.1 i h
theorem InS.sT {α : Type} {σ : sg} (I : InS σ) (x y : α) : stT σ x y = if gN σ 0 = 0 then y else x := by
  obtain ⟨i0, i3, i03, -⟩ := I
  unfold stT
  by_cases g : gN σ 0 = 0
  · rw [if_pos g, if_neg (by omega)]
  · rw [if_neg g, if_pos (by omega)]
theorem InS.if3 {α : Type} {σ : sg} (I : InS σ) (x y : α) : (if 0 < gN σ 3 then x else y) = if gN σ 0 = 0 then y else x := I.sT x y
theorem InS.one {σ : sg} (I : InS σ) (h : ¬ gN σ 0 = 0) : gN σ 0 = 1 := by have := I.1; omega
theorem eFollows {σ : sg} (I : InS σ) (v w : Int32) : cFollows σ v w = mFollows σ v w := by
  unfold cFollows mFollows
  rw [I.sT, Nat.mul_comm]
theorem eTold {σ : sg} (I : InS σ) (k : Int32) : cTold σ k = mTold σ k := by
  unfold cTold mTold
  rw [I.sT]
theorem totP.w {σ : sg} (T : totP σ) (a : Nat) : 0 < wgN σ a (-1) := by rw [wgN_all]; exact T
theorem lik_N {σ : sg} (H : SgN σ) (T : totP σ) {k w : Nat} (hk1 : 1 ≤ k) (hk : k ≤ 6) (hw : w < 3) (p : Int32) : F_low (oddF (stS σ) (gN σ 6) k w) (allF (stS σ) (gN σ 6)) p = lwN (wgN σ k (nI w)) (wgN σ 1 (-1)) p := by
  have a1 := H.wle k (nI w)
  have a2 := H.wle 1 (-1)
  rw [oddF_N H hk1 hk hw, allF_N H 1, F_lowN (by omega) (by omega) (T.w 1)]
theorem eLikely {σ : sg} (I : InS σ) (T : gN σ 0 = 1 → totP σ) (k w p : Int32) : cLikely σ k w p = mLikely σ k w p := by
  unfold cLikely mLikely
  by_cases h : inP 1 6 k ∧ inP 0 2 w
  · rw [cIf_t h, cIf_t h, I.sT]
    by_cases hp : inP 0 1 p
    · rw [cIf_t hp, cIf_t hp]
      by_cases g : gN σ 0 = 0
      · rw [if_pos g, if_pos g]
      · rw [if_neg g, if_neg g]
        obtain ⟨⟨i, rfl, h1, h2⟩, ⟨j, rfl, h3, h4⟩⟩ := h
        rw [nIc (by omega), nIc (by omega)]
        exact lik_N I.sgn (T (I.one g)) h1 h2 (by omega) p
    · rw [cIf_f hp, cIf_f hp]
  · rw [cIf_f h, cIf_f h]
theorem eLikeliest {σ : sg} (I : InS σ) (T : gN σ 0 = 1 → totP σ) : cLikeliest σ = mLikeliest σ := by
  unfold cLikeliest mLikeliest
  rw [I.sT]
  by_cases g : gN σ 0 = 0
  · rw [if_pos g, if_pos g]
  · rw [if_neg g, if_neg g, lkM_N I.sgn (T (I.one g))]
theorem eWays {σ : sg} (I : InS σ) : cWays σ = mWays σ := by
  unfold cWays mWays
  rw [I.sT, cWays_N I.sgn]
theorem srF_of {f g : Nat → Int64} (h0 : f 0 = g 0) (h1 : f 1 = g 1) (h2 : f 2 = g 2) : srF f = srF g := by
  unfold srF
  rw [h0, h1, h2]
theorem sr_N {σ : sg} (H : SgN σ) {k : Nat} (hk1 : 1 ≤ k) (hk : k ≤ 6) : srF (fun w => oddF (stS σ) (gN σ 6) k w) = srF (fun w => wgC σ k (nI w)) := srF_of (oddF_C H hk1 hk (by decide)) (oddF_C H hk1 hk (by decide)) (oddF_C H hk1 hk (by decide))
theorem eSure {σ : sg} (I : InS σ) (k : Int32) : cSure σ k = mSure σ k := by
  unfold cSure mSure
  by_cases h : inP 1 6 k
  · rw [cIf_t h, cIf_t h, I.sT]
    obtain ⟨i, rfl, h1, h2⟩ := h
    rw [nIc (by omega), sr_N I.sgn h1 h2]
  · rw [cIf_f h, cIf_f h]
theorem mn64_N {a b : Nat} (ha : a < 2 ^ 63) (hb : b < 2 ^ 63) : mn64 (lN a) (lN b) = lN (min a b) := by
  unfold mn64
  by_cases g : b < a
  · rw [if_pos ((pk_lLT hb ha).mpr g), Nat.min_eq_right (by omega)]
  · rw [if_neg (fun q => g ((pk_lLT hb ha).mp q)), Nat.min_eq_left (by omega)]
theorem fit_N {σ : sg} (H : SgN σ) (r : Int32) (w : Nat) : (F_fit (nI (gN σ 4)) r w).toInt64 = lN (fitN (gN σ 4) r w) := by
  have := fitN_le H.2.1 r w
  rw [F_fitN H.2.1, lN_ofI (by omega)]
theorem od0 {σ : sg} (H : SgN σ) : oddF (stS σ) (gN σ 6) 1 0 = lN (wgN σ 1 0) := oddF_N H (by decide) (by decide) (by decide)
theorem od1 {σ : sg} (H : SgN σ) : oddF (stS σ) (gN σ 6) 1 1 = lN (wgN σ 1 1) := oddF_N H (by decide) (by decide) (by decide)
theorem od2 {σ : sg} (H : SgN σ) : oddF (stS σ) (gN σ 6) 1 2 = lN (wgN σ 1 2) := oddF_N H (by decide) (by decide) (by decide)
theorem mbS_N {σ : sg} (H : SgN σ) (r : Int32) {c t : Nat} (hc : c ≤ 9) (ht : t ≤ 9) : mbS σ r (nI c) (nI t) = lN (mbM σ r c t) := by
  show mn64 ((nI c).toInt64 * smP (fun w => oddF (stS σ) (gN σ 6) 1 w * (F_fit (nI (gN σ 4)) r w).toInt64) 3) ((nI t).toInt64 * (oddF (stS σ) (gN σ 6) 1 1 * (F_fit (nI (gN σ 4)) r 1).toInt64)) = _
  have e : smP (fun w => oddF (stS σ) (gN σ 6) 1 w * (F_fit (nI (gN σ 4)) r w).toInt64) 3 = lN (mtM σ r) := by
    rw [smP3N (a := wgN σ 1 0 * fitN (gN σ 4) r 0) (b := wgN σ 1 1 * fitN (gN σ 4) r 1) (c := wgN σ 1 2 * fitN (gN σ 4) r 2) (by rw [od0 H, fit_N H, lN_mul]) (by rw [od1 H, fit_N H, lN_mul]) (by rw [od2 H, fit_N H, lN_mul])]
    unfold mtM
    rw [Nat.zero_add]
  have b1 := Nat.mul_le_mul hc (mtM_le H.1 H.2.1 H.2.2 r)
  have b2 := Nat.mul_le_mul (Nat.mul_le_mul ht (H.wle 1 1)) (fitN_le H.2.1 r 1)
  rw [e, od1 H, fit_N H, lN_ofI (by omega), lN_ofI (by omega), lN_mul, lN_mul, lN_mul, ← Nat.mul_assoc, mn64_N (by omega) (by omega)]
  rfl
theorem mbM_m {σ : sg} (c t : Nat) : mbM σ (-1) c t = min (c * wgN σ 1 (-1)) (t * wgN σ 1 1) := by
  unfold mbM mtM
  rw [show fitN (gN σ 4) (-1) 0 = 1 from rfl, show fitN (gN σ 4) (-1) 1 = 1 from rfl, show fitN (gN σ 4) (-1) 2 = 1 from rfl, wgN_3, Nat.mul_one, Nat.mul_one, Nat.mul_one, Nat.zero_add, Nat.mul_one]
theorem look_N {σ : sg} (H : SgN σ) (T : totP σ) {c t : Nat} (hc : c ≤ 9) (ht : t ≤ 9) (p : Int32) : F_low (10 * mbS σ (-1) (nI c) (nI t) - (((0 + mbS σ 0 (nI c) (nI t)) + mbS σ 1 (nI c) (nI t)) + mbS σ 2 (nI c) (nI t))) (10 * allF (stS σ) (gN σ 6)) p = lwN (gnN σ c t) (10 * wgN σ 1 (-1)) p := by
  have g := gn_le (σ := σ) H.2.1 c t
  have m := Nat.min_le_left (c * wgN σ 1 (-1)) (t * wgN σ 1 1)
  have b := Nat.mul_le_mul hc (H.wle 1 (-1))
  have b2 := H.wle 1 (-1)
  have b3 := T.w 1
  rw [mbS_N H _ hc ht, mbS_N H _ hc ht, mbS_N H _ hc ht, mbS_N H _ hc ht, mbM_m, allF_N H 1, show (10 : Int64) = lN 10 from rfl, show (0 : Int64) = lN 0 from rfl, lN_mul, lN_mul, lN_add, lN_add, lN_add, Nat.zero_add, lN_sub g, F_lowN (by omega) (by omega) (by omega)]
  unfold gnN
  rw [Nat.sub_sub, Nat.sub_sub, Nat.add_assoc]
theorem eLook {σ : sg} (I : InS σ) (T : gN σ 0 = 1 → totP σ) (c t p : Int32) : cLook σ c t p = mLook σ c t p := by
  unfold cLook mLook
  by_cases h : inP 1 9 c ∧ inP 1 9 t ∧ inP 0 1 p
  · rw [cIf_t h, cIf_t h, I.sT]
    by_cases g : gN σ 0 = 0
    · rw [if_pos g, if_pos g]
    · rw [if_neg g, if_neg g]
      obtain ⟨⟨i, rfl, h1, h2⟩, ⟨j, rfl, h3, h4⟩, -⟩ := h
      rw [nIc (by omega), nIc (by omega)]
      exact look_N I.sgn (T (I.one g)) h2 h4 p
  · rw [cIf_f h, cIf_f h]
theorem eAs {σ : sg} (I : InS σ) (v k : Int32) : cAs σ v k = mAs σ v k := by
  unfold cAs mAs
  by_cases h : isPe σ v
  · rw [cIf_t h, cIf_t h]
    by_cases hk : inP 0 4 k
    · rw [cIf_t hk, cIf_t hk]
      obtain ⟨i, rfl, hi⟩ := h
      obtain ⟨j, rfl, -, hj⟩ := hk
      have i8 := I.2.2.2.2.2.1
      have k5 := I.k9 hi
      rw [nIc (by omega)]
      unfold kdS isKd
      by_cases g0 : nI j = 0
      · rw [cIf_t (Or.inl g0), if_pos g0]
      · rw [if_neg g0]
        by_cases g1 : nI (gA σ 9 i) = nI j
        · rw [cIf_t (Or.inr (Or.inl g1.symm)), if_pos g1]
        · rw [if_neg g1]
          by_cases g2 : nI j = 3
          · rw [if_pos g2]
            by_cases g3 : nI (gA σ 9 i) = 4
            · rw [if_pos g3, cIf_t (Or.inr (Or.inr ⟨g2, nIinj (b := 4) (by omega) (by decide) g3⟩))]
            · rw [if_neg g3, cIf_f]
              rintro (q | q | q)
              · exact g0 q
              · exact g1 q.symm
              · exact g3 (by rw [q.2]; rfl)
          · rw [if_neg g2, cIf_f]
            rintro (q | q | q)
            · exact g0 q
            · exact g1 q.symm
            · exact g2 q.1
    · rw [cIf_f hk, cIf_f hk]
  · rw [cIf_f h, cIf_f h]
/-! who covers -/
theorem sr_1 {o : Nat → Int64} : srF o = 1 ↔ o 0 ≤ 0 ∧ ¬ o 1 ≤ 0 ∧ o 2 ≤ 0 := by
  unfold srF
  by_cases a : o 0 ≤ 0 <;> by_cases b : o 1 ≤ 0 <;> by_cases c : o 2 ≤ 0 <;> simp [a, b, c] <;> decide
theorem cov_2 {σ : sg} (H : SgN σ) (T : totP σ) : srF (fun w => oddF (stS σ) (gN σ 6) 1 w) = 1 ↔ wgC σ 1 1 = wgC σ 1 (-1) := by
  have w0 := H.wle 1 0
  have w1 := H.wle 1 1
  have w2 := H.wle 1 2
  have wa := H.wle 1 (-1)
  have w3 := wgN_3 σ 1
  have t := T.w 1
  rw [sr_1, od0 H, od1 H, od2 H, wgC_N H.1 H.2.1 H.2.2, wgC_N H.1 H.2.1 H.2.2, lN_pos (by omega), lN_pos (by omega), lN_pos (by omega), pk_lEQ (by omega) (by omega)]
  omega
theorem eCov {σ : sg} (H : SgN σ) (T : totP σ) {i : Nat} (hk : gA σ 9 i < 5) : covS σ i ↔ mcS σ i := by
  have r1 : F_rdg (gB σ 7) 1 = gB σ 7 1 := rfl
  unfold covS covQ mcS kdS
  rw [r1]
  rcases (show gA σ 9 i = 0 ∨ gA σ 9 i = 1 ∨ gA σ 9 i = 2 ∨ gA σ 9 i = 3 ∨ gA σ 9 i = 4 by omega) with e | e | e | e | e <;> rw [e]
  · rw [if_pos rfl, if_neg (by decide), if_neg (by decide), if_neg (by decide), if_neg (by decide)]
  · rw [if_neg (by decide), if_pos rfl, if_pos (show nI 1 = 1 from rfl), od1 H, allF_N H 1, wgC_N H.1 H.2.1 H.2.2, wgC_N H.1 H.2.1 H.2.2]
  · rw [if_neg (by decide), if_neg (by decide), if_pos rfl, if_neg (by decide), if_pos (show nI 2 = 2 from rfl)]
    exact cov_2 H T
  · rw [if_neg (by decide), if_neg (by decide), if_neg (by decide), if_pos rfl, if_neg (by decide), if_neg (by decide), if_pos (show nI 3 = 3 from rfl)]
  · rw [if_neg (by decide), if_neg (by decide), if_neg (by decide), if_neg (by decide), if_neg (by decide), if_neg (by decide), if_neg (by decide), if_pos (show nI 4 = 4 from rfl)]
    exact ⟨fun g => ⟨g.2, g.1⟩, fun g => ⟨g.2, g.1⟩⟩
theorem eAbout {σ : sg} (I : InS σ) (T : gN σ 0 = 1 → totP σ) (v w : Int32) : cAbout σ v w = mAbout σ v w := by
  unfold cAbout mAbout
  by_cases h : isPe σ v
  · rw [cIf_t h, cIf_t h]
    obtain ⟨i, rfl, hi⟩ := h
    have i8 := I.2.2.2.2.2.1
    have hg : gN σ 0 = 1 := by
      have := I.2.2.2.2.2.2.2.2.2.2.2.2.2.2
      have := I.1
      by_cases q : gN σ 0 = 0
      · have := this; omega
      · omega
    rw [nIc (by omega)]
    by_cases hw : inP 0 4 w
    · rw [cIf_t hw]
      obtain ⟨j, rfl, -, hj⟩ := hw
      unfold mPer
      rcases (show j = 0 ∨ j = 1 ∨ j = 2 ∨ j = 3 ∨ j = 4 by omega) with rfl | rfl | rfl | rfl | rfl
      · rw [if_pos (show nI 0 = 0 from rfl), if_pos (show nI 0 = 0 from rfl)]; rfl
      · rw [if_neg (by decide), if_pos (show nI 1 = 1 from rfl), if_neg (by decide), if_pos (show nI 1 = 1 from rfl)]
      · rw [if_neg (by decide), if_neg (by decide), if_pos (show nI 2 = 2 from rfl), if_neg (by decide), if_neg (by decide), if_pos (show nI 2 = 2 from rfl)]
      · rw [if_neg (by decide), if_neg (by decide), if_neg (by decide), if_pos (show nI 3 = 3 from rfl), if_neg (by decide), if_neg (by decide), if_neg (by decide), if_pos (show nI 3 = 3 from rfl)]
      · rw [if_neg (by decide), if_neg (by decide), if_neg (by decide), if_neg (by decide), if_pos (show nI 4 = 4 from rfl), if_neg (by decide), if_neg (by decide), if_neg (by decide), if_neg (by decide)]
        have e := eCov I.sgn (T hg) (I.k9 hi)
        by_cases c : covS σ i
        · rw [cIf_t c, cIf_t (e.mp c)]
        · rw [cIf_f c, cIf_f (fun q => c (e.mpr q))]
    · rw [cIf_f hw]
      have n : ∀ j, j ≤ 4 → ¬ w = nI j := fun j hj e => hw ⟨j, e, Nat.zero_le _, hj⟩
      rw [if_neg (show ¬ w = 0 from n 0 (by decide)), if_neg (show ¬ w = 1 from n 1 (by decide)), if_neg (show ¬ w = 2 from n 2 (by decide)), if_neg (show ¬ w = 3 from n 3 (by decide)), if_neg (show ¬ w = 4 from n 4 (by decide))]
  · rw [cIf_f h, cIf_f h]

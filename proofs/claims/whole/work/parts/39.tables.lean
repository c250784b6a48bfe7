/-! the class's tables as naturals -/
def SgN (σ : sg) : Prop := gN σ 6 < 3 ∧ gN σ 4 < 10 ∧ ∀ i, i < 9 → gA σ 2 i ≤ 10
theorem SgN.st {σ : sg} (H : SgN σ) (k : Nat) {v w : Nat} (hv : v < 3) (hw : w < 3) : stS σ k v w = lN (spN σ k v w) := stS_N H.2.1 H.2.2 k hv hw
theorem SgN.le {σ : sg} (H : SgN σ) (k : Nat) {v w : Nat} (hv : v < 3) (hw : w < 3) : spN σ k v w ≤ 100 := spN_le H.2.1 H.2.2 k hv hw
theorem smP3 (f : Nat → Int64) : smP f 3 = 0 + f 0 + f 1 + f 2 := rfl
theorem smP3N {f : Nat → Int64} {a b c : Nat} (h0 : f 0 = lN a) (h1 : f 1 = lN b) (h2 : f 2 = lN c) : smP f 3 = lN (a + b + c) := by
  rw [smP3, h0, h1, h2, show (0 : Int64) = lN 0 from rfl, lN_add, lN_add, lN_add, Nat.zero_add]
theorem bhD_N {σ : sg} (H : SgN σ) (d v : Nat) (hv : v < 3) : bhD (stS σ) d v = lN (bN (spN σ) d v) := by
  induction d generalizing v with
  | zero => rfl
  | succ d ih =>
    simp only [bhD, bN]
    exact smP3N (by rw [H.st _ hv (by decide), ih 0 (by decide), lN_mul]) (by rw [H.st _ hv (by decide), ih 1 (by decide), lN_mul]) (by rw [H.st _ hv (by decide), ih 2 (by decide), lN_mul])
theorem unD_N {σ : sg} (H : SgN σ) (w0 k w : Nat) (hw : w < 3) : unD (stS σ) w0 k w = lN (unN (spN σ) w0 k w) := by
  induction k generalizing w with
  | zero => simp only [unD, unN]; split <;> rfl
  | succ k ih =>
    simp only [unD, unN]
    exact smP3N (by rw [H.st _ (by decide) hw, ih 0 (by decide), lN_mul]) (by rw [H.st _ (by decide) hw, ih 1 (by decide), lN_mul]) (by rw [H.st _ (by decide) hw, ih 2 (by decide), lN_mul])
theorem oddF_N {σ : sg} (H : SgN σ) {k w : Nat} (hk1 : 1 ≤ k) (hk : k ≤ 6) (hw : w < 3) : oddF (stS σ) (gN σ 6) k w = lN (wgN σ k (nI w)) := by
  unfold oddF
  rw [unD_N H _ _ _ hw, bhD_N H _ _ hw, lN_mul, wgN_one H.1 hk1 hk hw]
theorem allF_N {σ : sg} (H : SgN σ) (a : Nat) : allF (stS σ) (gN σ 6) = lN (wgN σ a (-1)) := by
  unfold allF
  rw [smP3N (unD_N H _ _ 0 (by decide)) (unD_N H _ _ 1 (by decide)) (unD_N H _ _ 2 (by decide)), wgN_all, ← un_b H.1 6 (by decide)]
  simp only [bN, Nat.sub_self, Nat.mul_one]
theorem oddF_C {σ : sg} (H : SgN σ) {k w : Nat} (hk1 : 1 ≤ k) (hk : k ≤ 6) (hw : w < 3) : oddF (stS σ) (gN σ 6) k w = wgC σ k (nI w) := (oddF_N H hk1 hk hw).trans (wgC_N H.1 H.2.1 H.2.2 k (nI w)).symm
theorem allF_C {σ : sg} (H : SgN σ) (a : Nat) : allF (stS σ) (gN σ 6) = wgC σ a (-1) := (allF_N H a).trans (wgC_N H.1 H.2.1 H.2.2 a (-1)).symm
theorem SgN.wle {σ : sg} (H : SgN σ) (a : Nat) (w : Int32) : wgN σ a w ≤ 729000000000000 := wgN_le H.1 H.2.1 H.2.2 a w
theorem lN_pos {n : Nat} (h : n < 2 ^ 63) : lN n ≤ 0 ↔ n = 0 := by
  rw [show (0 : Int64) = lN 0 from rfl, pk_lLE h (by decide)]
  exact Nat.le_zero
/-! Euclid's way, with more steps than it needs -/
theorem gcL_s (k : Nat) (x y : Int64) : gcL (k + 1) x y = if y = 0 then x else gcL k y (x - x / y * y) := rfl
theorem gcL_step {k a c : Nat} (ha : a < 2 ^ 63) (hc : c < 2 ^ 63) (h : 0 < c) : gcL (k + 1) (lN a) (lN c) = gcL k (lN c) (lN (a % c)) := by
  rw [gcL_s, if_neg (fun e => by have := (pk_lEQ (b := 0) hc (by decide)).mp e; omega), pk_lRem ha h hc]
theorem gcL_end {k a : Nat} : gcL (k + 1) (lN a) (lN 0) = lN a := by rw [gcL_s, if_pos (show lN 0 = 0 from rfl)]
theorem gcL_N (n : Nat) : ∀ (k a c : Nat), a < 2 ^ 63 → c < 2 ^ n → c < 2 ^ 63 → 2 * n + 1 ≤ k → gcL k (lN a) (lN c) = lN (Nat.gcd a c) := by
  induction n with
  | zero =>
    intro k a c ha hc _ hk
    obtain ⟨k, rfl⟩ : ∃ q, k = q + 1 := ⟨k - 1, by omega⟩
    have e : c = 0 := by simpa using hc
    subst e
    rw [gcL_end, Nat.gcd_zero_right]
  | succ n ih =>
    intro k a c ha hc hc2 hk
    obtain ⟨k, rfl⟩ : ∃ q, k = q + 2 := ⟨k - 2, by omega⟩
    by_cases h0 : c = 0
    · subst h0; rw [gcL_end, Nat.gcd_zero_right]
    · have m1 := Nat.mod_lt a (Nat.pos_of_ne_zero h0)
      rw [gcL_step ha hc2 (by omega)]
      have eg : Nat.gcd a c = Nat.gcd c (a % c) := by rw [Nat.gcd_comm a c, Nat.gcd_rec, Nat.gcd_comm]
      by_cases h1 : a % c = 0
      · rw [h1, gcL_end, eg, h1, Nat.gcd_zero_right]
      · have m2 := Nat.mod_lt c (Nat.pos_of_ne_zero h1)
        have m3 : 2 * (c % (a % c)) < c := by
          have d := Nat.div_add_mod c (a % c)
          have d1 : 1 ≤ c / (a % c) := Nat.div_pos (by omega) (by omega)
          have d2 : (a % c) * 1 ≤ (a % c) * (c / (a % c)) := Nat.mul_le_mul_left _ d1
          omega
        rw [gcL_step hc2 (by omega) (by omega), ih k (a % c) (c % (a % c)) (by omega) (by rw [Nat.pow_succ] at hc; omega) (by omega) (by omega), eg, Nat.gcd_comm c (a % c), Nat.gcd_rec (a % c) c, Nat.gcd_comm]
theorem F_lowN {x y : Nat} (hx : x < 2 ^ 63) (hy : y < 2 ^ 63) (h0 : 0 < y) (p : Int32) : F_low (lN x) (lN y) p = lwN x y p := by
  have g := gcL_N 63 1000 x y hx hy hy (by decide)
  have gp := Nat.gcd_pos_of_pos_right x h0
  have gl : Nat.gcd x y ≤ y := Nat.le_of_dvd h0 (Nat.gcd_dvd_right x y)
  have ng : ¬ lN (Nat.gcd x y) ≤ 0 := fun e => by have := (lN_pos (by omega)).mp e; omega
  unfold F_low lwN
  rw [g, if_neg ng, if_neg ng, pk_lDiv hx gp (by omega), pk_lDiv hy gp (by omega)]
/-! ways -/
def stI (stp : Nat → Nat → Nat → Nat) : Nat → Nat → Nat → Nat := fun k v w => if stp k v w = 0 then 0 else 1
theorem ppN_s (stp : Nat → Nat → Nat → Nat) (wof : Nat → Nat) (d v : Nat) : ppN stp wof (d + 1) v = stp (6 - d) v (wof (6 - d)) * ppN stp wof d (wof (6 - d)) := rfl
theorem pp_I (stp : Nat → Nat → Nat → Nat) (wof : Nat → Nat) (d v : Nat) : ppN (stI stp) wof d v = if ppN stp wof d v = 0 then 0 else 1 := by
  induction d generalizing v with
  | zero => rfl
  | succ d ih =>
    rw [ppN_s, ppN_s, ih]
    unfold stI
    by_cases g1 : stp (6 - d) v (wof (6 - d)) = 0
    · rw [if_pos g1, g1, Nat.zero_mul, Nat.zero_mul, if_pos rfl]
    · rw [if_neg g1, Nat.one_mul]
      by_cases g2 : ppN stp wof d (wof (6 - d)) = 0
      · rw [if_pos g2, g2, Nat.mul_zero, if_pos rfl]
      · rw [if_neg g2, if_neg (Nat.mul_ne_zero g1 g2)]
theorem wyB_N {σ : sg} (H : SgN σ) (n : Nat) : wyB (odC σ) n = sumT (fun c => if odN σ c = 0 then 0 else 1) n := by
  induction n with
  | zero => rfl
  | succ n ih =>
    have e : (odC σ n ≤ 0) ↔ odN σ n = 0 := by
      rw [odC_N H.1 H.2.1 H.2.2 n]
      exact lN_pos (by have := odN_le H.1 H.2.1 H.2.2 n; omega)
    simp only [wyB, sumT]
    rw [ih]
    by_cases g : odN σ n = 0
    · rw [if_pos g, if_pos (e.mpr g)]
    · rw [if_neg g, if_neg (fun q => g (e.mp q))]
theorem wyM_N {σ : sg} (H : SgN σ) : wyM σ = bN (stI (spN σ)) 6 (gN σ 6) := by
  unfold wyM
  rw [wyB_N H, ← sum_bN _ 6 (by decide)]
  refine sumT_ext (fun c _ => ?_)
  rw [pp_I]
  unfold odN
  rw [odBN_pp]
theorem wyP3 (s : Nat → Int64) (nx : Nat → Int32) : wyP s nx 3 = 0 + (if s 0 ≤ 0 then 0 else nx 0) + (if s 1 ≤ 0 then 0 else nx 1) + (if s 2 ≤ 0 then 0 else nx 2) := rfl
theorem wyD_N {σ : sg} (H : SgN σ) (d v : Nat) (hv : v < 3) : wyD (stS σ) d v = nI (bN (stI (spN σ)) d v) := by
  induction d generalizing v with
  | zero => rfl
  | succ d ih =>
    have e : ∀ w, w < 3 → (if stS σ (6 - d) v w ≤ 0 then (0 : Int32) else wyD (stS σ) d w) = nI (stI (spN σ) (6 - d) v w * bN (stI (spN σ)) d w) := fun w hw => by
      rw [ih w hw, H.st _ hv hw]
      have l := H.le (6 - d) hv hw
      unfold stI
      by_cases g : spN σ (6 - d) v w = 0
      · rw [if_pos ((lN_pos (by omega)).mpr g), if_pos g, Nat.zero_mul]; rfl
      · rw [if_neg (fun q => g ((lN_pos (by omega)).mp q)), if_neg g, Nat.one_mul]
    simp only [wyD, bN]
    rw [wyP3, e 0 (by decide), e 1 (by decide), e 2 (by decide), show (0 : Int32) = nI 0 from rfl, nI_add, nI_add, nI_add, Nat.zero_add]
theorem cWays_N {σ : sg} (H : SgN σ) : wyD (stS σ) 6 (gN σ 6) = nI (wyM σ) := by rw [wyD_N H _ _ H.1, wyM_N H]

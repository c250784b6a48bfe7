/-! naturals: the sums over all days to come, by tables -/
def sumT (f : Nat → Nat) : Nat → Nat
  | 0 => 0
  | n + 1 => sumT f n + f n
theorem sumT_ext {f g : Nat → Nat} {n : Nat} (h : ∀ c, c < n → f c = g c) : sumT f n = sumT g n := by
  induction n with
  | zero => rfl
  | succ n ih => simp only [sumT]; rw [ih (fun c hc => h c (by omega)), h n (by omega)]
theorem sumT_add (f : Nat → Nat) (a n : Nat) : sumT f (a + n) = sumT f a + sumT (fun c => f (a + c)) n := by
  induction n with
  | zero => rfl
  | succ n ih => rw [← Nat.add_assoc]; simp only [sumT]; rw [ih]; omega
theorem sumT_mul (k : Nat) (f : Nat → Nat) (n : Nat) : sumT (fun c => k * f c) n = k * sumT f n := by
  induction n with
  | zero => simp [sumT]
  | succ n ih => simp only [sumT]; rw [ih, Nat.mul_add]
theorem sumT_z (n : Nat) : sumT (fun _ => 0) n = 0 := by
  induction n with
  | zero => rfl
  | succ n ih => simp only [sumT, ih]
theorem sumT_pos {f : Nat → Nat} {n : Nat} : 0 < sumT f n ↔ ∃ c, c < n ∧ 0 < f c := by
  induction n with
  | zero => simp [sumT]
  | succ n ih =>
    simp only [sumT]
    constructor
    · intro h
      by_cases g : 0 < f n
      · exact ⟨n, by omega, g⟩
      · obtain ⟨c, h1, h2⟩ := ih.mp (by omega)
        exact ⟨c, by omega, h2⟩
    · rintro ⟨c, h1, h2⟩
      by_cases e : c = n
      · subst e; omega
      · have := ih.mpr ⟨c, by omega, h2⟩; omega
theorem wgBN_sumT (od : Nat → Nat) (sel : Nat → Prop) [DecidablePred sel] (n : Nat) : wgBN od sel n = sumT (fun c => if sel c then od c else 0) n := by
  induction n with
  | zero => rfl
  | succ n ih => rw [wgBN_s, ih]; rfl
/-- the product of the last d days' odds along a way -/
def ppN (stp : Nat → Nat → Nat → Nat) (wof : Nat → Nat) : Nat → Nat → Nat
  | 0, _ => 1
  | d + 1, v => stp (6 - d) v (wof (6 - d)) * ppN stp wof d (wof (6 - d))
theorem odBN_pp (stp : Nat → Nat → Nat → Nat) (wn : Nat) (wof : Nat → Nat) : (odBN stp wn wof 6).1 = ppN stp wof 6 wn := by
  simp only [odBN, ppN, Nat.one_mul, Nat.mul_one, Nat.mul_assoc, Nat.reduceSub, Nat.reduceAdd]
theorem dvF_eq (c n : Nat) : dvF c n = c / 3 ^ n := by
  induction n with
  | zero => simp [dvF]
  | succ n ih => simp only [dvF]; rw [ih, Nat.div_div_eq_div_mul, Nat.pow_succ]
theorem wIn_hd {d w c : Nat} (hd : d < 6) (hw : w < 3) (hc : c < 3 ^ d) : wIn (w * 3 ^ d + c) (6 - d) = w := by
  unfold wIn
  rw [dvF_eq, show 6 - (6 - d) = d by omega, Nat.mul_comm, Nat.mul_add_div (Nat.pow_pos (by decide)), Nat.div_eq_of_lt hc, Nat.add_zero, Nat.mod_eq_of_lt hw]
theorem wIn_tl {d w c a : Nat} (ha : 6 - d < a) (ha6 : a ≤ 6) : wIn (w * 3 ^ d + c) a = wIn c a := by
  unfold wIn
  rw [dvF_eq, dvF_eq]
  have e : w * 3 ^ d = 3 ^ (6 - a) * (3 * (w * 3 ^ (d - (6 - a) - 1))) := by
    rw [show d = (6 - a) + (1 + (d - (6 - a) - 1)) by omega, Nat.pow_add, Nat.pow_add, show (6 - a) + (1 + (d - (6 - a) - 1)) - (6 - a) - 1 = d - (6 - a) - 1 by omega]
    rw [Nat.pow_one]
    simp only [Nat.mul_comm, Nat.mul_left_comm]
  rw [e, Nat.mul_add_div (Nat.pow_pos (by decide)), Nat.mul_add_mod]
theorem ppN_ext {stp : Nat → Nat → Nat → Nat} {wof wof2 : Nat → Nat} (d : Nat) (h : ∀ a, 6 - d < a → a ≤ 6 → wof a = wof2 a) (hd : d ≤ 6) (v : Nat) : ppN stp wof d v = ppN stp wof2 d v := by
  induction d generalizing v with
  | zero => rfl
  | succ d ih =>
    simp only [ppN]
    rw [h (6 - d) (by omega) (by omega), ih (fun a h1 h2 => h a (by omega) h2) (by omega)]
theorem pp_step {stp : Nat → Nat → Nat → Nat} {d v w c : Nat} (hd : d < 6) (hw : w < 3) (hc : c < 3 ^ d) : ppN stp (wIn (w * 3 ^ d + c)) (d + 1) v = stp (6 - d) v w * ppN stp (wIn c) d w := by
  simp only [ppN]
  rw [wIn_hd hd hw hc, ppN_ext d (fun a h1 h2 => wIn_tl h1 h2) (by omega)]
/-- the sums from the back -/
def bN (stp : Nat → Nat → Nat → Nat) : Nat → Nat → Nat
  | 0, _ => 1
  | d + 1, v => stp (6 - d) v 0 * bN stp d 0 + stp (6 - d) v 1 * bN stp d 1 + stp (6 - d) v 2 * bN stp d 2
theorem sumT_3 (f : Nat → Nat) (d : Nat) : sumT f (3 ^ (d + 1)) = sumT (fun c => f (0 * 3 ^ d + c)) (3 ^ d) + sumT (fun c => f (1 * 3 ^ d + c)) (3 ^ d) + sumT (fun c => f (2 * 3 ^ d + c)) (3 ^ d) := by
  rw [Nat.pow_succ, show 3 ^ d * 3 = 3 ^ d + (3 ^ d + 3 ^ d) by omega, sumT_add, sumT_add]
  have e0 : sumT (fun c => f (0 * 3 ^ d + c)) (3 ^ d) = sumT f (3 ^ d) := sumT_ext (fun c _ => by rw [Nat.zero_mul, Nat.zero_add])
  have e1 : sumT (fun c => f (1 * 3 ^ d + c)) (3 ^ d) = sumT (fun c => f (3 ^ d + c)) (3 ^ d) := sumT_ext (fun c _ => by rw [Nat.one_mul])
  have e2 : sumT (fun c => f (2 * 3 ^ d + c)) (3 ^ d) = sumT (fun c => f (3 ^ d + (3 ^ d + c))) (3 ^ d) := sumT_ext (fun c _ => by rw [show 2 * 3 ^ d + c = 3 ^ d + (3 ^ d + c) by omega])
  rw [e0, e1, e2]
  omega
theorem sum_bN (stp : Nat → Nat → Nat → Nat) (d : Nat) (hd : d ≤ 6) (v : Nat) : sumT (fun c => ppN stp (wIn c) d v) (3 ^ d) = bN stp d v := by
  induction d generalizing v with
  | zero => rfl
  | succ d ih =>
    rw [sumT_3]
    have e : ∀ w, w < 3 → sumT (fun c => ppN stp (wIn (w * 3 ^ d + c)) (d + 1) v) (3 ^ d) = stp (6 - d) v w * bN stp d w := fun w hw => by
      rw [← ih (by omega), ← sumT_mul]
      exact sumT_ext (fun c hc => pp_step (by omega) hw hc)
    rw [e 0 (by decide), e 1 (by decide), e 2 (by decide)]
    rfl
/-- the sums from the front -/
def unN (stp : Nat → Nat → Nat → Nat) (w0 : Nat) : Nat → Nat → Nat
  | 0, w => if w = w0 then 1 else 0
  | k + 1, w => unN stp w0 k 0 * stp (k + 1) 0 w + unN stp w0 k 1 * stp (k + 1) 1 w + unN stp w0 k 2 * stp (k + 1) 2 w
theorem un_b {stp : Nat → Nat → Nat → Nat} {w0 : Nat} (h0 : w0 < 3) (k : Nat) (hk : k ≤ 6) : unN stp w0 k 0 * bN stp (6 - k) 0 + unN stp w0 k 1 * bN stp (6 - k) 1 + unN stp w0 k 2 * bN stp (6 - k) 2 = bN stp 6 w0 := by
  induction k with
  | zero =>
    rcases (show w0 = 0 ∨ w0 = 1 ∨ w0 = 2 by omega) with rfl | rfl | rfl <;> simp [unN]
  | succ k ih =>
    rw [← ih (by omega), show 6 - k = (6 - (k + 1)) + 1 by omega]
    simp only [bN, unN]
    rw [show 6 - (6 - (k + 1)) = k + 1 by omega]
    generalize unN stp w0 k 0 = u0
    generalize unN stp w0 k 1 = u1
    generalize unN stp w0 k 2 = u2
    generalize bN stp (6 - (k + 1)) 0 = b0
    generalize bN stp (6 - (k + 1)) 1 = b1
    generalize bN stp (6 - (k + 1)) 2 = b2
    simp only [Nat.mul_add, Nat.add_mul, Nat.mul_assoc]
    omega
theorem bN_ext {s1 s2 : Nat → Nat → Nat → Nat} (d : Nat) (hd : d ≤ 6) (h : ∀ k, 6 - d < k → k ≤ 6 → s1 k = s2 k) : bN s1 d = bN s2 d := by
  induction d with
  | zero => rfl
  | succ d ih =>
    funext v
    simp only [bN]
    rw [ih (by omega) (fun k h1 h2 => h k (by omega) h2), h (6 - d) (by omega) (by omega)]
theorem unN_ext {s1 s2 : Nat → Nat → Nat → Nat} {w0 : Nat} (k : Nat) (h : ∀ j, 1 ≤ j → j ≤ k → s1 j = s2 j) : unN s1 w0 k = unN s2 w0 k := by
  induction k with
  | zero => rfl
  | succ k ih =>
    funext w
    simp only [unN]
    rw [ih (fun j h1 h2 => h j h1 (by omega)), h (k + 1) (by omega) (by omega)]
/-- the odds with a day held to a weather -/
def stH (stp : Nat → Nat → Nat → Nat) (K W : Nat) : Nat → Nat → Nat → Nat := fun k v w => if k = K ∧ ¬ w = W then 0 else stp k v w
theorem pp_H {stp : Nat → Nat → Nat → Nat} {K W : Nat} {wof : Nat → Nat} (hK : K ≤ 6) (d : Nat) (hd : d ≤ 6) (v : Nat) : ppN (stH stp K W) wof d v = if 6 - d < K ∧ ¬ wof K = W then 0 else ppN stp wof d v := by
  induction d generalizing v with
  | zero => simp only [ppN]; rw [if_neg (by omega)]
  | succ d ih =>
    simp only [ppN]
    rw [ih (by omega)]
    unfold stH
    by_cases e : 6 - d = K
    · subst e
      by_cases g : wof (6 - d) = W
      · rw [if_neg (fun q => q.2 g), if_neg (by omega), if_neg (fun q => q.2 g)]
      · rw [if_pos ⟨rfl, g⟩, Nat.zero_mul, if_pos ⟨by omega, g⟩]
    · rw [if_neg (fun q => e q.1)]
      by_cases g : 6 - d < K ∧ ¬ wof K = W
      · rw [if_pos g, if_pos ⟨by omega, g.2⟩, Nat.mul_zero]
      · rw [if_neg g, if_neg (fun q => g ⟨by omega, q.2⟩)]
theorem held {stp : Nat → Nat → Nat → Nat} {w0 K W : Nat} (h0 : w0 < 3) (hK1 : 1 ≤ K) (hK : K ≤ 6) (hW : W < 3) : sumT (fun c => if wIn c K = W then ppN stp (wIn c) 6 w0 else 0) 729 = unN stp w0 K W * bN stp (6 - K) W := by
  have e1 : sumT (fun c => if wIn c K = W then ppN stp (wIn c) 6 w0 else 0) 729 = bN (stH stp K W) 6 w0 := by
    rw [← sum_bN _ 6 (by decide)]
    refine sumT_ext (fun c _ => ?_)
    rw [pp_H hK 6 (by decide)]
    by_cases g : wIn c K = W
    · rw [if_pos g, if_neg (fun q => q.2 g)]
    · rw [if_neg g, if_pos ⟨by omega, g⟩]
  rw [e1, ← un_b h0 K hK]
  have eb : bN (stH stp K W) (6 - K) = bN stp (6 - K) := bN_ext _ (by omega) (fun k h1 h2 => by funext v w; unfold stH; rw [if_neg (by omega)])
  have eu : ∀ w, unN (stH stp K W) w0 K w = if w = W then unN stp w0 K w else 0 := by
    obtain ⟨k, rfl⟩ : ∃ k, K = k + 1 := ⟨K - 1, by omega⟩
    intro w
    simp only [unN]
    rw [unN_ext k (s1 := stH stp (k + 1) W) (s2 := stp) (fun j h1 h2 => by funext v w; unfold stH; rw [if_neg (by omega)])]
    unfold stH
    by_cases g : w = W
    · rw [if_pos g, if_neg (fun q => q.2 g), if_neg (fun q => q.2 g), if_neg (fun q => q.2 g)]
    · rw [if_neg g, if_pos ⟨rfl, g⟩, if_pos ⟨rfl, g⟩, if_pos ⟨rfl, g⟩]; simp
  rw [eb, eu, eu, eu]
  rcases (show W = 0 ∨ W = 1 ∨ W = 2 by omega) with rfl | rfl | rfl <;> simp
theorem wgN_all {σ : sg} (a : Nat) : wgN σ a (-1) = bN (spN σ) 6 (gN σ 6) := by
  unfold wgN
  rw [wgBN_sumT, ← sum_bN _ 6 (by decide)]
  refine sumT_ext (fun c _ => ?_)
  rw [if_pos (Or.inl rfl)]
  exact odBN_pp _ _ _
theorem wgN_one {σ : sg} (h6 : gN σ 6 < 3) {a : Nat} (ha1 : 1 ≤ a) (ha : a ≤ 6) {w : Nat} (hw : w < 3) : wgN σ a (nI w) = unN (spN σ) (gN σ 6) a w * bN (spN σ) (6 - a) w := by
  unfold wgN
  rw [wgBN_sumT, ← held h6 ha1 ha hw]
  refine sumT_ext (fun c _ => ?_)
  have h3 := wIn_lt c a
  have e : (nI w = -1 ∨ nI (wIn c a) = nI w) ↔ wIn c a = w := ⟨fun q => q.elim (fun g => absurd g (nI_nm1 (by omega))) (fun g => nIinj (by omega) (by omega) g), fun g => Or.inr (by rw [g])⟩
  by_cases g : wIn c a = w
  · rw [if_pos (e.mpr g), if_pos g]; exact odBN_pp _ _ _
  · rw [if_neg (fun q => g (e.mp q)), if_neg g]
